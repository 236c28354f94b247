set_option maxRecDepth 20000 in
theorem gX6_faces_X6_in : GoodIn wsX6_faces (va_wsS RX6 81 yX6_in wsX6_in) := goodIn_app (goodIn_of _ (by decide +kernel)) ggX6_faces_X6_in
set_option maxRecDepth 20000 in
theorem ggX6_faces_X6_unlike : GoodIn wsX6_faces wsX6_unlike := goodIn_r _ [20, 8, 21, 22, 23, 24, 25, 5, 26, 27, 1, 28, 29, 30, 31, 32, 33, 34, 35, 36, 37, 9, 10, 11, 38, 39, 40, 41, 42, 43, 44, 45, 46, 47, 48, 49, 50, 51, 52, 53, 54, 55, 56, 57, 58, 59, 60, 61, 62, 63, 64, 65, 66, 67, 68, 69, 70, 71, 72, 73, 74, 75, 76, 77, 78, 79, 80, 81, 82, 83, 84, 85, 86, 87, 88, 89, 90, 91, 92, 93, 94, 95, 96, 97, 98, 99, 100, 101, 102, 103, 104, 105, 106, 107, 108, 109, 110, 111, 112, 113, 114, 115, 116, 117] rfl (by decide +kernel)
set_option maxRecDepth 20000 in
theorem gX6_faces_X6_unlike : GoodIn wsX6_faces (wsV RX6 255 RX6 yX6_unlike wsX6_unlike) := goodIn_app (goodIn_of _ (by decide +kernel)) ggX6_faces_X6_unlike
theorem dX6_faces_0 : decode cX6_faces 0 = .ok (.aload_n 0, 1) := by decide +kernel
theorem dX6_faces_1 : decode cX6_faces 1 = .ok (.iload_n 1, 1) := by decide +kernel
theorem dX6_faces_2 : decode cX6_faces 2 = .ok (.invokevirtual 252, 3) := by decide +kernel
theorem dX6_faces_5 : decode cX6_faces 5 = .ok (.istore 4, 2) := by decide +kernel
theorem dX6_faces_7 : decode cX6_faces 7 = .ok (.iload 4, 2) := by decide +kernel
theorem dX6_faces_9 : decode cX6_faces 9 = .ok (.ifCond .eq 6, 3) := by decide +kernel
theorem dX6_faces_12 : decode cX6_faces 12 = .ok (.iload 4, 2) := by decide +kernel
theorem dX6_faces_14 : decode cX6_faces 14 = .ok (.ireturn, 1) := by decide +kernel
theorem dX6_faces_15 : decode cX6_faces 15 = .ok (.aload_n 0, 1) := by decide +kernel
theorem dX6_faces_16 : decode cX6_faces 16 = .ok (.iload_n 2, 1) := by decide +kernel
theorem dX6_faces_17 : decode cX6_faces 17 = .ok (.invokevirtual 183, 3) := by decide +kernel
theorem dX6_faces_20 : decode cX6_faces 20 = .ok (.ifCond .ne 6, 3) := by decide +kernel
theorem dX6_faces_23 : decode cX6_faces 23 = .ok (.bipush (-5), 2) := by decide +kernel
theorem dX6_faces_25 : decode cX6_faces 25 = .ok (.ireturn, 1) := by decide +kernel
theorem dX6_faces_26 : decode cX6_faces 26 = .ok (.iload_n 3, 1) := by decide +kernel
theorem dX6_faces_27 : decode cX6_faces 27 = .ok (.iconst 0, 1) := by decide +kernel
theorem dX6_faces_28 : decode cX6_faces 28 = .ok (.iconst 1, 1) := by decide +kernel
theorem dX6_faces_29 : decode cX6_faces 29 = .ok (.invokestatic 81, 3) := by decide +kernel
theorem dX6_faces_32 : decode cX6_faces 32 = .ok (.ifCond .ne 6, 3) := by decide +kernel
theorem dX6_faces_35 : decode cX6_faces 35 = .ok (.bipush (-7), 2) := by decide +kernel
theorem dX6_faces_37 : decode cX6_faces 37 = .ok (.ireturn, 1) := by decide +kernel
theorem dX6_faces_38 : decode cX6_faces 38 = .ok (.aload_n 0, 1) := by decide +kernel
theorem dX6_faces_39 : decode cX6_faces 39 = .ok (.getfield 16, 3) := by decide +kernel
theorem dX6_faces_42 : decode cX6_faces 42 = .ok (.iconst 3, 1) := by decide +kernel
theorem dX6_faces_43 : decode cX6_faces 43 = .ok (.iload_n 2, 1) := by decide +kernel
theorem dX6_faces_44 : decode cX6_faces 44 = .ok (.imul, 1) := by decide +kernel
theorem dX6_faces_45 : decode cX6_faces 45 = .ok (.iconst 1, 1) := by decide +kernel
theorem dX6_faces_46 : decode cX6_faces 46 = .ok (.iadd, 1) := by decide +kernel
theorem dX6_faces_47 : decode cX6_faces 47 = .ok (.iaload, 1) := by decide +kernel
theorem dX6_faces_48 : decode cX6_faces 48 = .ok (.istore 5, 2) := by decide +kernel
theorem dX6_faces_50 : decode cX6_faces 50 = .ok (.iconst 0, 1) := by decide +kernel
theorem dX6_faces_51 : decode cX6_faces 51 = .ok (.istore 6, 2) := by decide +kernel
theorem dX6_faces_53 : decode cX6_faces 53 = .ok (.iconst (-1), 1) := by decide +kernel
theorem dX6_faces_54 : decode cX6_faces 54 = .ok (.istore 7, 2) := by decide +kernel
theorem dX6_faces_56 : decode cX6_faces 56 = .ok (.iconst 0, 1) := by decide +kernel
theorem dX6_faces_57 : decode cX6_faces 57 = .ok (.istore 8, 2) := by decide +kernel
theorem dX6_faces_59 : decode cX6_faces 59 = .ok (.iload 8, 2) := by decide +kernel
theorem dX6_faces_61 : decode cX6_faces 61 = .ok (.bipush 99, 2) := by decide +kernel
theorem dX6_faces_63 : decode cX6_faces 63 = .ok (.if_icmp .gt 72, 3) := by decide +kernel
theorem dX6_faces_66 : decode cX6_faces 66 = .ok (.aload_n 0, 1) := by decide +kernel
theorem dX6_faces_67 : decode cX6_faces 67 = .ok (.getfield 16, 3) := by decide +kernel
theorem dX6_faces_70 : decode cX6_faces 70 = .ok (.iconst 3, 1) := by decide +kernel
theorem dX6_faces_71 : decode cX6_faces 71 = .ok (.iload_n 2, 1) := by decide +kernel
theorem dX6_faces_72 : decode cX6_faces 72 = .ok (.imul, 1) := by decide +kernel
theorem dX6_faces_73 : decode cX6_faces 73 = .ok (.iconst 1, 1) := by decide +kernel
theorem dX6_faces_74 : decode cX6_faces 74 = .ok (.iadd, 1) := by decide +kernel
theorem dX6_faces_75 : decode cX6_faces 75 = .ok (.iload 8, 2) := by decide +kernel
theorem dX6_faces_77 : decode cX6_faces 77 = .ok (.iastore, 1) := by decide +kernel
theorem dX6_faces_78 : decode cX6_faces 78 = .ok (.aload_n 0, 1) := by decide +kernel
theorem dX6_faces_79 : decode cX6_faces 79 = .ok (.iload_n 1, 1) := by decide +kernel
theorem dX6_faces_80 : decode cX6_faces 80 = .ok (.invokevirtual 255, 3) := by decide +kernel
theorem dX6_faces_83 : decode cX6_faces 83 = .ok (.iconst (-1), 1) := by decide +kernel
theorem dX6_faces_84 : decode cX6_faces 84 = .ok (.if_icmp .ne 7, 3) := by decide +kernel
theorem dX6_faces_87 : decode cX6_faces 87 = .ok (.iconst 1, 1) := by decide +kernel
theorem dX6_faces_88 : decode cX6_faces 88 = .ok (.goto 4, 3) := by decide +kernel
theorem dX6_faces_91 : decode cX6_faces 91 = .ok (.iconst 0, 1) := by decide +kernel
theorem dX6_faces_92 : decode cX6_faces 92 = .ok (.istore 9, 2) := by decide +kernel
theorem dX6_faces_94 : decode cX6_faces 94 = .ok (.iload 6, 2) := by decide +kernel
theorem dX6_faces_96 : decode cX6_faces 96 = .ok (.iload 9, 2) := by decide +kernel
theorem dX6_faces_98 : decode cX6_faces 98 = .ok (.ifCond .eq 7, 3) := by decide +kernel
theorem dX6_faces_101 : decode cX6_faces 101 = .ok (.iconst 1, 1) := by decide +kernel
theorem dX6_faces_102 : decode cX6_faces 102 = .ok (.goto 4, 3) := by decide +kernel
theorem dX6_faces_105 : decode cX6_faces 105 = .ok (.iconst 0, 1) := by decide +kernel
theorem dX6_faces_106 : decode cX6_faces 106 = .ok (.iadd, 1) := by decide +kernel
theorem dX6_faces_107 : decode cX6_faces 107 = .ok (.istore 6, 2) := by decide +kernel
theorem dX6_faces_109 : decode cX6_faces 109 = .ok (.iload 9, 2) := by decide +kernel
theorem dX6_faces_111 : decode cX6_faces 111 = .ok (.ifCond .eq 14, 3) := by decide +kernel
theorem dX6_faces_114 : decode cX6_faces 114 = .ok (.iload 7, 2) := by decide +kernel
theorem dX6_faces_116 : decode cX6_faces 116 = .ok (.iconst (-1), 1) := by decide +kernel
theorem dX6_faces_117 : decode cX6_faces 117 = .ok (.if_icmp .ne 8, 3) := by decide +kernel
theorem dX6_faces_120 : decode cX6_faces 120 = .ok (.iload 8, 2) := by decide +kernel
theorem dX6_faces_122 : decode cX6_faces 122 = .ok (.goto 5, 3) := by decide +kernel
theorem dX6_faces_125 : decode cX6_faces 125 = .ok (.iload 7, 2) := by decide +kernel
theorem dX6_faces_127 : decode cX6_faces 127 = .ok (.istore 7, 2) := by decide +kernel
theorem dX6_faces_129 : decode cX6_faces 129 = .ok (.iinc 8 1, 3) := by decide +kernel
theorem dX6_faces_132 : decode cX6_faces 132 = .ok (.goto (-73), 3) := by decide +kernel
theorem dX6_faces_135 : decode cX6_faces 135 = .ok (.aload_n 0, 1) := by decide +kernel
theorem dX6_faces_136 : decode cX6_faces 136 = .ok (.getfield 16, 3) := by decide +kernel
theorem dX6_faces_139 : decode cX6_faces 139 = .ok (.iconst 3, 1) := by decide +kernel
theorem dX6_faces_140 : decode cX6_faces 140 = .ok (.iload_n 2, 1) := by decide +kernel
theorem dX6_faces_141 : decode cX6_faces 141 = .ok (.imul, 1) := by decide +kernel
theorem dX6_faces_142 : decode cX6_faces 142 = .ok (.iconst 1, 1) := by decide +kernel
theorem dX6_faces_143 : decode cX6_faces 143 = .ok (.iadd, 1) := by decide +kernel
theorem dX6_faces_144 : decode cX6_faces 144 = .ok (.iload 5, 2) := by decide +kernel
theorem dX6_faces_146 : decode cX6_faces 146 = .ok (.iastore, 1) := by decide +kernel
theorem dX6_faces_147 : decode cX6_faces 147 = .ok (.iload_n 3, 1) := by decide +kernel
theorem dX6_faces_148 : decode cX6_faces 148 = .ok (.ifCond .ne 8, 3) := by decide +kernel
theorem dX6_faces_151 : decode cX6_faces 151 = .ok (.iload 6, 2) := by decide +kernel
theorem dX6_faces_153 : decode cX6_faces 153 = .ok (.goto 5, 3) := by decide +kernel
theorem dX6_faces_156 : decode cX6_faces 156 = .ok (.iload 7, 2) := by decide +kernel
theorem dX6_faces_158 : decode cX6_faces 158 = .ok (.ireturn, 1) := by decide +kernel
set_option maxRecDepth 20000 in
theorem ggX6_keens_X6_sheetWrong : GoodIn wsX6_keens wsX6_sheetWrong := goodIn_r _ [6, 7, 8, 9, 10, 5, 11, 75, 76, 77, 78, 79, 80, 81, 82, 83, 84, 85, 86, 87, 88, 89, 90, 91, 92, 93, 94, 95, 96, 97, 98, 99, 100, 101, 102, 103, 104, 105, 106, 107, 108, 109, 110, 111, 112] rfl (by decide +kernel)
set_option maxRecDepth 20000 in
theorem gX6_keens_X6_sheetWrong : GoodIn wsX6_keens (wsV RX6 252 RX6 yX6_sheetWrong wsX6_sheetWrong) := goodIn_app (goodIn_of _ (by decide +kernel)) ggX6_keens_X6_sheetWrong
set_option maxRecDepth 20000 in
theorem ggX6_keens_X6_in : GoodIn wsX6_keens wsX6_in := goodIn_r _ [11] rfl (by decide +kernel)
set_option maxRecDepth 20000 in
theorem gX6_keens_X6_in : GoodIn wsX6_keens (va_wsS RX6 81 yX6_in wsX6_in) := goodIn_app (goodIn_of _ (by decide +kernel)) ggX6_keens_X6_in
set_option maxRecDepth 20000 in
theorem ggX6_keens_X6_unlike : GoodIn wsX6_keens wsX6_unlike := goodIn_r _ [15, 8, 16, 17, 18, 19, 20, 5, 21, 22, 23, 24, 25, 26, 27, 28, 29, 30, 31, 32, 33, 9, 10, 11, 34, 35, 36, 37, 38, 39, 40, 1, 41, 42, 43, 44, 45, 46, 47, 48, 49, 50, 51, 52, 53, 54, 55, 56, 57, 58, 59, 60, 61, 62, 63, 64, 65, 66, 67, 68, 69, 70, 71, 72, 73, 74, 75, 76, 77, 78, 79, 80, 81, 82, 83, 84, 85, 86, 87, 88, 89, 90, 91, 92, 93, 94, 95, 96, 97, 98, 99, 100, 101, 102, 103, 104, 105, 106, 107, 108, 109, 110, 111, 112] rfl (by decide +kernel)
set_option maxRecDepth 20000 in
theorem gX6_keens_X6_unlike : GoodIn wsX6_keens (wsV RX6 255 RX6 yX6_unlike wsX6_unlike) := goodIn_app (goodIn_of _ (by decide +kernel)) ggX6_keens_X6_unlike
theorem dX6_keens_0 : decode cX6_keens 0 = .ok (.aload_n 0, 1) := by decide +kernel
theorem dX6_keens_1 : decode cX6_keens 1 = .ok (.iload_n 1, 1) := by decide +kernel
theorem dX6_keens_2 : decode cX6_keens 2 = .ok (.invokevirtual 252, 3) := by decide +kernel
theorem dX6_keens_5 : decode cX6_keens 5 = .ok (.istore 4, 2) := by decide +kernel
theorem dX6_keens_7 : decode cX6_keens 7 = .ok (.iload 4, 2) := by decide +kernel
theorem dX6_keens_9 : decode cX6_keens 9 = .ok (.ifCond .eq 6, 3) := by decide +kernel
theorem dX6_keens_12 : decode cX6_keens 12 = .ok (.iload 4, 2) := by decide +kernel
theorem dX6_keens_14 : decode cX6_keens 14 = .ok (.ireturn, 1) := by decide +kernel
theorem dX6_keens_15 : decode cX6_keens 15 = .ok (.iload_n 2, 1) := by decide +kernel
theorem dX6_keens_16 : decode cX6_keens 16 = .ok (.iconst 0, 1) := by decide +kernel
theorem dX6_keens_17 : decode cX6_keens 17 = .ok (.iconst 5, 1) := by decide +kernel
theorem dX6_keens_18 : decode cX6_keens 18 = .ok (.invokestatic 81, 3) := by decide +kernel
theorem dX6_keens_21 : decode cX6_keens 21 = .ok (.ifCond .ne 6, 3) := by decide +kernel
theorem dX6_keens_24 : decode cX6_keens 24 = .ok (.bipush (-5), 2) := by decide +kernel
theorem dX6_keens_26 : decode cX6_keens 26 = .ok (.ireturn, 1) := by decide +kernel
theorem dX6_keens_27 : decode cX6_keens 27 = .ok (.iload_n 3, 1) := by decide +kernel
theorem dX6_keens_28 : decode cX6_keens 28 = .ok (.iconst 0, 1) := by decide +kernel
theorem dX6_keens_29 : decode cX6_keens 29 = .ok (.iconst 1, 1) := by decide +kernel
theorem dX6_keens_30 : decode cX6_keens 30 = .ok (.invokestatic 81, 3) := by decide +kernel
theorem dX6_keens_33 : decode cX6_keens 33 = .ok (.ifCond .ne 6, 3) := by decide +kernel
theorem dX6_keens_36 : decode cX6_keens 36 = .ok (.bipush (-7), 2) := by decide +kernel
theorem dX6_keens_38 : decode cX6_keens 38 = .ok (.ireturn, 1) := by decide +kernel
theorem dX6_keens_39 : decode cX6_keens 39 = .ok (.aload_n 0, 1) := by decide +kernel
theorem dX6_keens_40 : decode cX6_keens 40 = .ok (.getfield 25, 3) := by decide +kernel
theorem dX6_keens_43 : decode cX6_keens 43 = .ok (.iload_n 2, 1) := by decide +kernel
theorem dX6_keens_44 : decode cX6_keens 44 = .ok (.iaload, 1) := by decide +kernel
theorem dX6_keens_45 : decode cX6_keens 45 = .ok (.istore 5, 2) := by decide +kernel
theorem dX6_keens_47 : decode cX6_keens 47 = .ok (.iconst 0, 1) := by decide +kernel
theorem dX6_keens_48 : decode cX6_keens 48 = .ok (.istore 6, 2) := by decide +kernel
theorem dX6_keens_50 : decode cX6_keens 50 = .ok (.iconst (-1), 1) := by decide +kernel
theorem dX6_keens_51 : decode cX6_keens 51 = .ok (.istore 7, 2) := by decide +kernel
theorem dX6_keens_53 : decode cX6_keens 53 = .ok (.iconst 0, 1) := by decide +kernel
theorem dX6_keens_54 : decode cX6_keens 54 = .ok (.istore 8, 2) := by decide +kernel
theorem dX6_keens_56 : decode cX6_keens 56 = .ok (.iload 8, 2) := by decide +kernel
theorem dX6_keens_58 : decode cX6_keens 58 = .ok (.bipush 99, 2) := by decide +kernel
theorem dX6_keens_60 : decode cX6_keens 60 = .ok (.if_icmp .gt 68, 3) := by decide +kernel
theorem dX6_keens_63 : decode cX6_keens 63 = .ok (.aload_n 0, 1) := by decide +kernel
theorem dX6_keens_64 : decode cX6_keens 64 = .ok (.getfield 25, 3) := by decide +kernel
theorem dX6_keens_67 : decode cX6_keens 67 = .ok (.iload_n 2, 1) := by decide +kernel
theorem dX6_keens_68 : decode cX6_keens 68 = .ok (.iload 8, 2) := by decide +kernel
theorem dX6_keens_70 : decode cX6_keens 70 = .ok (.iastore, 1) := by decide +kernel
theorem dX6_keens_71 : decode cX6_keens 71 = .ok (.aload_n 0, 1) := by decide +kernel
theorem dX6_keens_72 : decode cX6_keens 72 = .ok (.iload_n 1, 1) := by decide +kernel
theorem dX6_keens_73 : decode cX6_keens 73 = .ok (.invokevirtual 255, 3) := by decide +kernel
theorem dX6_keens_76 : decode cX6_keens 76 = .ok (.iconst (-1), 1) := by decide +kernel
theorem dX6_keens_77 : decode cX6_keens 77 = .ok (.if_icmp .ne 7, 3) := by decide +kernel
theorem dX6_keens_80 : decode cX6_keens 80 = .ok (.iconst 1, 1) := by decide +kernel
theorem dX6_keens_81 : decode cX6_keens 81 = .ok (.goto 4, 3) := by decide +kernel
theorem dX6_keens_84 : decode cX6_keens 84 = .ok (.iconst 0, 1) := by decide +kernel
theorem dX6_keens_85 : decode cX6_keens 85 = .ok (.istore 9, 2) := by decide +kernel
theorem dX6_keens_87 : decode cX6_keens 87 = .ok (.iload 6, 2) := by decide +kernel
theorem dX6_keens_89 : decode cX6_keens 89 = .ok (.iload 9, 2) := by decide +kernel
theorem dX6_keens_91 : decode cX6_keens 91 = .ok (.ifCond .eq 7, 3) := by decide +kernel
theorem dX6_keens_94 : decode cX6_keens 94 = .ok (.iconst 1, 1) := by decide +kernel
theorem dX6_keens_95 : decode cX6_keens 95 = .ok (.goto 4, 3) := by decide +kernel
theorem dX6_keens_98 : decode cX6_keens 98 = .ok (.iconst 0, 1) := by decide +kernel
theorem dX6_keens_99 : decode cX6_keens 99 = .ok (.iadd, 1) := by decide +kernel
theorem dX6_keens_100 : decode cX6_keens 100 = .ok (.istore 6, 2) := by decide +kernel
theorem dX6_keens_102 : decode cX6_keens 102 = .ok (.iload 9, 2) := by decide +kernel
theorem dX6_keens_104 : decode cX6_keens 104 = .ok (.ifCond .eq 14, 3) := by decide +kernel
theorem dX6_keens_107 : decode cX6_keens 107 = .ok (.iload 7, 2) := by decide +kernel
theorem dX6_keens_109 : decode cX6_keens 109 = .ok (.iconst (-1), 1) := by decide +kernel
theorem dX6_keens_110 : decode cX6_keens 110 = .ok (.if_icmp .ne 8, 3) := by decide +kernel
theorem dX6_keens_113 : decode cX6_keens 113 = .ok (.iload 8, 2) := by decide +kernel
theorem dX6_keens_115 : decode cX6_keens 115 = .ok (.goto 5, 3) := by decide +kernel
theorem dX6_keens_118 : decode cX6_keens 118 = .ok (.iload 7, 2) := by decide +kernel
theorem dX6_keens_120 : decode cX6_keens 120 = .ok (.istore 7, 2) := by decide +kernel
theorem dX6_keens_122 : decode cX6_keens 122 = .ok (.iinc 8 1, 3) := by decide +kernel
theorem dX6_keens_125 : decode cX6_keens 125 = .ok (.goto (-69), 3) := by decide +kernel
theorem dX6_keens_128 : decode cX6_keens 128 = .ok (.aload_n 0, 1) := by decide +kernel
theorem dX6_keens_129 : decode cX6_keens 129 = .ok (.getfield 25, 3) := by decide +kernel
theorem dX6_keens_132 : decode cX6_keens 132 = .ok (.iload_n 2, 1) := by decide +kernel
theorem dX6_keens_133 : decode cX6_keens 133 = .ok (.iload 5, 2) := by decide +kernel
theorem dX6_keens_135 : decode cX6_keens 135 = .ok (.iastore, 1) := by decide +kernel
theorem dX6_keens_136 : decode cX6_keens 136 = .ok (.iload_n 3, 1) := by decide +kernel
theorem dX6_keens_137 : decode cX6_keens 137 = .ok (.ifCond .ne 8, 3) := by decide +kernel
theorem dX6_keens_140 : decode cX6_keens 140 = .ok (.iload 6, 2) := by decide +kernel
theorem dX6_keens_142 : decode cX6_keens 142 = .ok (.goto 5, 3) := by decide +kernel
theorem dX6_keens_145 : decode cX6_keens 145 = .ok (.iload 7, 2) := by decide +kernel
theorem dX6_keens_147 : decode cX6_keens 147 = .ok (.ireturn, 1) := by decide +kernel
set_option maxRecDepth 20000 in
theorem ggX6_burnt_X6_sheetWrong : GoodIn wsX6_burnt wsX6_sheetWrong := goodIn_r _ [6, 7, 8, 9, 10, 5, 11, 75, 76, 77, 78, 79, 80, 81, 82, 83, 84, 85, 86, 87, 88, 89, 90, 91, 92, 93, 94, 95, 96, 97, 98, 99, 100, 101, 102, 103, 104, 105, 106, 107, 108, 109, 110, 111, 112] rfl (by decide +kernel)
set_option maxRecDepth 20000 in
theorem gX6_burnt_X6_sheetWrong : GoodIn wsX6_burnt (wsV RX6 252 RX6 yX6_sheetWrong wsX6_sheetWrong) := goodIn_app (goodIn_of _ (by decide +kernel)) ggX6_burnt_X6_sheetWrong
set_option maxRecDepth 20000 in
theorem ggX6_burnt_X6_unlike : GoodIn wsX6_burnt wsX6_unlike := goodIn_r _ [15, 8, 16, 17, 18, 19, 20, 5, 21, 22, 23, 1, 24, 25, 26, 27, 28, 29, 30, 31, 32, 9, 10, 11, 33, 34, 35, 36, 37, 38, 39, 40, 41, 42, 43, 44, 45, 46, 47, 48, 49, 50, 51, 52, 53, 54, 55, 56, 57, 58, 59, 60, 61, 62, 63, 64, 65, 66, 67, 68, 69, 70, 71, 72, 73, 74, 75, 76, 77, 78, 79, 80, 81, 82, 83, 84, 85, 86, 87, 88, 89, 90, 91, 92, 93, 94, 95, 96, 97, 98, 99, 100, 101, 102, 103, 104, 105, 106, 107, 108, 109, 110, 111, 112] rfl (by decide +kernel)
set_option maxRecDepth 20000 in
theorem gX6_burnt_X6_unlike : GoodIn wsX6_burnt (wsV RX6 255 RX6 yX6_unlike wsX6_unlike) := goodIn_app (goodIn_of _ (by decide +kernel)) ggX6_burnt_X6_unlike
theorem dX6_burnt_0 : decode cX6_burnt 0 = .ok (.aload_n 0, 1) := by decide +kernel
theorem dX6_burnt_1 : decode cX6_burnt 1 = .ok (.iload_n 1, 1) := by decide +kernel
theorem dX6_burnt_2 : decode cX6_burnt 2 = .ok (.invokevirtual 252, 3) := by decide +kernel
theorem dX6_burnt_5 : decode cX6_burnt 5 = .ok (.istore_n 2, 1) := by decide +kernel
theorem dX6_burnt_6 : decode cX6_burnt 6 = .ok (.iload_n 2, 1) := by decide +kernel
theorem dX6_burnt_7 : decode cX6_burnt 7 = .ok (.ifCond .eq 5, 3) := by decide +kernel
theorem dX6_burnt_10 : decode cX6_burnt 10 = .ok (.iload_n 2, 1) := by decide +kernel
theorem dX6_burnt_11 : decode cX6_burnt 11 = .ok (.ireturn, 1) := by decide +kernel
theorem dX6_burnt_12 : decode cX6_burnt 12 = .ok (.iconst 0, 1) := by decide +kernel
theorem dX6_burnt_13 : decode cX6_burnt 13 = .ok (.istore_n 3, 1) := by decide +kernel
theorem dX6_burnt_14 : decode cX6_burnt 14 = .ok (.iconst 0, 1) := by decide +kernel
theorem dX6_burnt_15 : decode cX6_burnt 15 = .ok (.istore 4, 2) := by decide +kernel
theorem dX6_burnt_17 : decode cX6_burnt 17 = .ok (.iload 4, 2) := by decide +kernel
theorem dX6_burnt_19 : decode cX6_burnt 19 = .ok (.bipush 8, 2) := by decide +kernel
theorem dX6_burnt_21 : decode cX6_burnt 21 = .ok (.if_icmp .ge 67, 3) := by decide +kernel
theorem dX6_burnt_24 : decode cX6_burnt 24 = .ok (.aload_n 0, 1) := by decide +kernel
theorem dX6_burnt_25 : decode cX6_burnt 25 = .ok (.getfield 19, 3) := by decide +kernel
theorem dX6_burnt_28 : decode cX6_burnt 28 = .ok (.iconst 3, 1) := by decide +kernel
theorem dX6_burnt_29 : decode cX6_burnt 29 = .ok (.iload 4, 2) := by decide +kernel
theorem dX6_burnt_31 : decode cX6_burnt 31 = .ok (.imul, 1) := by decide +kernel
theorem dX6_burnt_32 : decode cX6_burnt 32 = .ok (.iaload, 1) := by decide +kernel
theorem dX6_burnt_33 : decode cX6_burnt 33 = .ok (.istore 5, 2) := by decide +kernel
theorem dX6_burnt_35 : decode cX6_burnt 35 = .ok (.iload 5, 2) := by decide +kernel
theorem dX6_burnt_37 : decode cX6_burnt 37 = .ok (.iconst (-1), 1) := by decide +kernel
theorem dX6_burnt_38 : decode cX6_burnt 38 = .ok (.if_icmp .eq 44, 3) := by decide +kernel
theorem dX6_burnt_41 : decode cX6_burnt 41 = .ok (.aload_n 0, 1) := by decide +kernel
theorem dX6_burnt_42 : decode cX6_burnt 42 = .ok (.getfield 19, 3) := by decide +kernel
theorem dX6_burnt_45 : decode cX6_burnt 45 = .ok (.iconst 3, 1) := by decide +kernel
theorem dX6_burnt_46 : decode cX6_burnt 46 = .ok (.iload 4, 2) := by decide +kernel
theorem dX6_burnt_48 : decode cX6_burnt 48 = .ok (.imul, 1) := by decide +kernel
theorem dX6_burnt_49 : decode cX6_burnt 49 = .ok (.iconst (-1), 1) := by decide +kernel
theorem dX6_burnt_50 : decode cX6_burnt 50 = .ok (.iastore, 1) := by decide +kernel
theorem dX6_burnt_51 : decode cX6_burnt 51 = .ok (.iload_n 3, 1) := by decide +kernel
theorem dX6_burnt_52 : decode cX6_burnt 52 = .ok (.aload_n 0, 1) := by decide +kernel
theorem dX6_burnt_53 : decode cX6_burnt 53 = .ok (.iload_n 1, 1) := by decide +kernel
theorem dX6_burnt_54 : decode cX6_burnt 54 = .ok (.invokevirtual 255, 3) := by decide +kernel
theorem dX6_burnt_57 : decode cX6_burnt 57 = .ok (.iconst (-1), 1) := by decide +kernel
theorem dX6_burnt_58 : decode cX6_burnt 58 = .ok (.if_icmp .ne 10, 3) := by decide +kernel
theorem dX6_burnt_61 : decode cX6_burnt 61 = .ok (.iconst 1, 1) := by decide +kernel
theorem dX6_burnt_62 : decode cX6_burnt 62 = .ok (.iload 4, 2) := by decide +kernel
theorem dX6_burnt_64 : decode cX6_burnt 64 = .ok (.ishl, 1) := by decide +kernel
theorem dX6_burnt_65 : decode cX6_burnt 65 = .ok (.goto 4, 3) := by decide +kernel
theorem dX6_burnt_68 : decode cX6_burnt 68 = .ok (.iconst 0, 1) := by decide +kernel
theorem dX6_burnt_69 : decode cX6_burnt 69 = .ok (.ior, 1) := by decide +kernel
theorem dX6_burnt_70 : decode cX6_burnt 70 = .ok (.istore_n 3, 1) := by decide +kernel
theorem dX6_burnt_71 : decode cX6_burnt 71 = .ok (.aload_n 0, 1) := by decide +kernel
theorem dX6_burnt_72 : decode cX6_burnt 72 = .ok (.getfield 19, 3) := by decide +kernel
theorem dX6_burnt_75 : decode cX6_burnt 75 = .ok (.iconst 3, 1) := by decide +kernel
theorem dX6_burnt_76 : decode cX6_burnt 76 = .ok (.iload 4, 2) := by decide +kernel
theorem dX6_burnt_78 : decode cX6_burnt 78 = .ok (.imul, 1) := by decide +kernel
theorem dX6_burnt_79 : decode cX6_burnt 79 = .ok (.iload 5, 2) := by decide +kernel
theorem dX6_burnt_81 : decode cX6_burnt 81 = .ok (.iastore, 1) := by decide +kernel
theorem dX6_burnt_82 : decode cX6_burnt 82 = .ok (.iinc 4 1, 3) := by decide +kernel
theorem dX6_burnt_85 : decode cX6_burnt 85 = .ok (.goto (-68), 3) := by decide +kernel
theorem dX6_burnt_88 : decode cX6_burnt 88 = .ok (.iload_n 3, 1) := by decide +kernel
theorem dX6_burnt_89 : decode cX6_burnt 89 = .ok (.ireturn, 1) := by decide +kernel
set_option maxRecDepth 20000 in
theorem ggX6_laws_X6_sheetWrong : GoodIn wsX6_laws wsX6_sheetWrong := goodIn_r _ [7, 8, 9, 10, 11, 6, 12, 76, 77, 78, 79, 80, 81, 82, 83, 84, 85, 86, 87, 88, 89, 90, 91, 92, 93, 94, 95, 96, 97, 98, 99, 100, 101, 102, 103, 104, 105, 106, 107, 108, 109, 110, 111, 112, 113] rfl (by decide +kernel)
set_option maxRecDepth 20000 in
theorem gX6_laws_X6_sheetWrong : GoodIn wsX6_laws (wsV RX6 252 RX6 yX6_sheetWrong wsX6_sheetWrong) := goodIn_app (goodIn_of _ (by decide +kernel)) ggX6_laws_X6_sheetWrong
set_option maxRecDepth 20000 in
theorem ggX6_laws_X6_unlike : GoodIn wsX6_laws wsX6_unlike := goodIn_r _ [16, 9, 17, 18, 19, 20, 21, 6, 22, 23, 24, 25, 26, 27, 28, 29, 30, 31, 32, 33, 34, 10, 11, 12, 35, 36, 37, 38, 39, 40, 41, 42, 43, 44, 45, 46, 47, 48, 49, 50, 51, 52, 53, 54, 55, 56, 57, 58, 59, 60, 61, 62, 63, 64, 65, 1, 66, 67, 68, 69, 70, 71, 72, 73, 74, 75, 76, 77, 78, 79, 80, 81, 82, 83, 84, 85, 86, 87, 88, 89, 90, 91, 92, 93, 94, 95, 96, 97, 98, 99, 100, 101, 102, 103, 104, 105, 106, 107, 108, 109, 110, 111, 112, 113] rfl (by decide +kernel)
set_option maxRecDepth 20000 in
theorem gX6_laws_X6_unlike : GoodIn wsX6_laws (wsV RX6 255 RX6 yX6_unlike wsX6_unlike) := goodIn_app (goodIn_of _ (by decide +kernel)) ggX6_laws_X6_unlike
theorem dX6_laws_0 : decode cX6_laws 0 = .ok (.aload_n 0, 1) := by decide +kernel
theorem dX6_laws_1 : decode cX6_laws 1 = .ok (.iload_n 1, 1) := by decide +kernel
theorem dX6_laws_2 : decode cX6_laws 2 = .ok (.invokevirtual 252, 3) := by decide +kernel
theorem dX6_laws_5 : decode cX6_laws 5 = .ok (.istore_n 2, 1) := by decide +kernel
theorem dX6_laws_6 : decode cX6_laws 6 = .ok (.iload_n 2, 1) := by decide +kernel
theorem dX6_laws_7 : decode cX6_laws 7 = .ok (.ifCond .eq 5, 3) := by decide +kernel
theorem dX6_laws_10 : decode cX6_laws 10 = .ok (.iload_n 2, 1) := by decide +kernel
theorem dX6_laws_11 : decode cX6_laws 11 = .ok (.ireturn, 1) := by decide +kernel
theorem dX6_laws_12 : decode cX6_laws 12 = .ok (.aload_n 0, 1) := by decide +kernel
theorem dX6_laws_13 : decode cX6_laws 13 = .ok (.getfield 102, 3) := by decide +kernel
theorem dX6_laws_16 : decode cX6_laws 16 = .ok (.istore_n 3, 1) := by decide +kernel
theorem dX6_laws_17 : decode cX6_laws 17 = .ok (.iconst 0, 1) := by decide +kernel
theorem dX6_laws_18 : decode cX6_laws 18 = .ok (.istore 4, 2) := by decide +kernel
theorem dX6_laws_20 : decode cX6_laws 20 = .ok (.iconst 0, 1) := by decide +kernel
theorem dX6_laws_21 : decode cX6_laws 21 = .ok (.istore 5, 2) := by decide +kernel
theorem dX6_laws_23 : decode cX6_laws 23 = .ok (.iload 5, 2) := by decide +kernel
theorem dX6_laws_25 : decode cX6_laws 25 = .ok (.aload_n 0, 1) := by decide +kernel
theorem dX6_laws_26 : decode cX6_laws 26 = .ok (.getfield 99, 3) := by decide +kernel
theorem dX6_laws_29 : decode cX6_laws 29 = .ok (.if_icmp .ge 37, 3) := by decide +kernel
theorem dX6_laws_32 : decode cX6_laws 32 = .ok (.aload_n 0, 1) := by decide +kernel
theorem dX6_laws_33 : decode cX6_laws 33 = .ok (.iload 5, 2) := by decide +kernel
theorem dX6_laws_35 : decode cX6_laws 35 = .ok (.putfield 102, 3) := by decide +kernel
theorem dX6_laws_38 : decode cX6_laws 38 = .ok (.iload 4, 2) := by decide +kernel
theorem dX6_laws_40 : decode cX6_laws 40 = .ok (.aload_n 0, 1) := by decide +kernel
theorem dX6_laws_41 : decode cX6_laws 41 = .ok (.iload_n 1, 1) := by decide +kernel
theorem dX6_laws_42 : decode cX6_laws 42 = .ok (.invokevirtual 255, 3) := by decide +kernel
theorem dX6_laws_45 : decode cX6_laws 45 = .ok (.iconst (-1), 1) := by decide +kernel
theorem dX6_laws_46 : decode cX6_laws 46 = .ok (.if_icmp .ne 10, 3) := by decide +kernel
theorem dX6_laws_49 : decode cX6_laws 49 = .ok (.iconst 1, 1) := by decide +kernel
theorem dX6_laws_50 : decode cX6_laws 50 = .ok (.iload 5, 2) := by decide +kernel
theorem dX6_laws_52 : decode cX6_laws 52 = .ok (.ishl, 1) := by decide +kernel
theorem dX6_laws_53 : decode cX6_laws 53 = .ok (.goto 4, 3) := by decide +kernel
theorem dX6_laws_56 : decode cX6_laws 56 = .ok (.iconst 0, 1) := by decide +kernel
theorem dX6_laws_57 : decode cX6_laws 57 = .ok (.ior, 1) := by decide +kernel
theorem dX6_laws_58 : decode cX6_laws 58 = .ok (.istore 4, 2) := by decide +kernel
theorem dX6_laws_60 : decode cX6_laws 60 = .ok (.iinc 5 1, 3) := by decide +kernel
theorem dX6_laws_63 : decode cX6_laws 63 = .ok (.goto (-40), 3) := by decide +kernel
theorem dX6_laws_66 : decode cX6_laws 66 = .ok (.aload_n 0, 1) := by decide +kernel
theorem dX6_laws_67 : decode cX6_laws 67 = .ok (.iload_n 3, 1) := by decide +kernel
theorem dX6_laws_68 : decode cX6_laws 68 = .ok (.putfield 102, 3) := by decide +kernel
theorem dX6_laws_71 : decode cX6_laws 71 = .ok (.iload 4, 2) := by decide +kernel
theorem dX6_laws_73 : decode cX6_laws 73 = .ok (.ireturn, 1) := by decide +kernel
set_option maxRecDepth 20000 in
theorem ggX6_film_X6_in : GoodIn wsX6_film wsX6_in := goodIn_r _ [8] rfl (by decide +kernel)
set_option maxRecDepth 20000 in
theorem gX6_film_X6_in : GoodIn wsX6_film (va_wsS RX6 81 yX6_in wsX6_in) := goodIn_app (goodIn_of _ (by decide +kernel)) ggX6_film_X6_in
set_option maxRecDepth 20000 in
theorem ggX6_film_X6_keeps : GoodIn wsX6_film wsX6_keeps := goodIn_r _ [12, 13, 14, 15, 4, 16, 67, 68, 69, 70, 71, 72, 73, 74, 75, 76, 77, 78, 79, 80, 81, 82, 83, 84, 85, 86, 87, 88, 89, 90, 91, 92, 93, 94, 95, 96, 97, 98, 99, 100, 101, 102, 103, 104] rfl (by decide +kernel)
set_option maxRecDepth 20000 in
theorem gX6_film_X6_keeps : GoodIn wsX6_film (wsV RX6 216 RX6 yX6_keeps wsX6_keeps) := goodIn_app (goodIn_of _ (by decide +kernel)) ggX6_film_X6_keeps
set_option maxRecDepth 20000 in
theorem ggX6_film_X6_hourOf : GoodIn wsX6_film wsX6_hourOf := goodIn_r _ [20, 16, 15, 4, 14, 21, 22, 23, 7, 24, 5, 6, 8, 25, 26, 27, 28, 29, 30, 31, 32, 33, 34, 35, 36, 37, 38, 39, 40, 41, 42, 43, 44, 45, 46, 47, 48, 49, 50, 51, 52, 53, 54, 55, 56, 57, 58, 59, 60, 61, 62, 67, 68, 69, 70, 71, 72, 73, 74, 75, 76, 77, 78, 79, 80, 81, 82, 83, 84, 85, 86, 87, 88, 89, 90, 91, 92, 93, 94, 95, 96, 97, 98, 99, 100, 101, 102, 103, 104] rfl (by decide +kernel)
set_option maxRecDepth 20000 in
theorem gX6_film_X6_hourOf : GoodIn wsX6_film (wsV RX6 213 RX6 yX6_hourOf wsX6_hourOf) := goodIn_app (goodIn_of _ (by decide +kernel)) ggX6_film_X6_hourOf
set_option maxRecDepth 20000 in
theorem ggX6_film_X6_onesOf : GoodIn wsX6_film wsX6_onesOf := goodIn_r _ [46] rfl (by decide +kernel)
set_option maxRecDepth 20000 in
theorem gX6_film_X6_onesOf : GoodIn wsX6_film (va_wsS RX6 177 yX6_onesOf wsX6_onesOf) := goodIn_app (goodIn_of _ (by decide +kernel)) ggX6_film_X6_onesOf
set_option maxRecDepth 20000 in
theorem ggX6_film_X6_lays : GoodIn wsX6_film wsX6_lays := goodIn_r _ [66, 14, 13, 15, 4, 16, 67, 68, 69, 70, 71, 72, 73, 74, 75, 76, 77, 78, 79, 80, 81, 82, 83, 84, 85, 86, 87, 88, 89, 90, 91, 92, 93, 94, 95, 96, 97, 98, 99, 100, 101, 102, 103, 104] rfl (by decide +kernel)
set_option maxRecDepth 20000 in
theorem gX6_film_X6_lays : GoodIn wsX6_film (wsV RX6 222 RX6 yX6_lays wsX6_lays) := goodIn_app (goodIn_of _ (by decide +kernel)) ggX6_film_X6_lays
theorem dX6_film_0 : decode cX6_film 0 = .ok (.iload_n 1, 1) := by decide +kernel
theorem dX6_film_1 : decode cX6_film 1 = .ok (.iconst 0, 1) := by decide +kernel
theorem dX6_film_2 : decode cX6_film 2 = .ok (.iconst 3, 1) := by decide +kernel
theorem dX6_film_3 : decode cX6_film 3 = .ok (.invokestatic 81, 3) := by decide +kernel

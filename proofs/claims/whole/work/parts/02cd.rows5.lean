theorem dX5_fate_45 : decode cX5_fate 45 = .ok (.getfield 51, 3) := by decide +kernel
theorem dX5_fate_48 : decode cX5_fate 48 = .ok (.iload_n 1, 1) := by decide +kernel
theorem dX5_fate_49 : decode cX5_fate 49 = .ok (.invokevirtual 163, 3) := by decide +kernel
theorem dX5_fate_52 : decode cX5_fate 52 = .ok (.ifCond .eq 18, 3) := by decide +kernel
theorem dX5_fate_55 : decode cX5_fate 55 = .ok (.aload_n 0, 1) := by decide +kernel
theorem dX5_fate_56 : decode cX5_fate 56 = .ok (.getfield 51, 3) := by decide +kernel
theorem dX5_fate_59 : decode cX5_fate 59 = .ok (.iconst 1, 1) := by decide +kernel
theorem dX5_fate_60 : decode cX5_fate 60 = .ok (.invokevirtual 181, 3) := by decide +kernel
theorem dX5_fate_63 : decode cX5_fate 63 = .ok (.pop, 1) := by decide +kernel
theorem dX5_fate_64 : decode cX5_fate 64 = .ok (.iinc 3 1, 3) := by decide +kernel
theorem dX5_fate_67 : decode cX5_fate 67 = .ok (.goto (-29), 3) := by decide +kernel
theorem dX5_fate_70 : decode cX5_fate 70 = .ok (.iload_n 2, 1) := by decide +kernel
theorem dX5_fate_71 : decode cX5_fate 71 = .ok (.iconst 1, 1) := by decide +kernel
theorem dX5_fate_72 : decode cX5_fate 72 = .ok (.if_icmp .ne 5, 3) := by decide +kernel
theorem dX5_fate_75 : decode cX5_fate 75 = .ok (.iload_n 3, 1) := by decide +kernel
theorem dX5_fate_76 : decode cX5_fate 76 = .ok (.ireturn, 1) := by decide +kernel
theorem dX5_fate_77 : decode cX5_fate 77 = .ok (.aload_n 0, 1) := by decide +kernel
theorem dX5_fate_78 : decode cX5_fate 78 = .ok (.getfield 51, 3) := by decide +kernel
theorem dX5_fate_81 : decode cX5_fate 81 = .ok (.getfield 172, 3) := by decide +kernel
theorem dX5_fate_84 : decode cX5_fate 84 = .ok (.iload_n 1, 1) := by decide +kernel
theorem dX5_fate_85 : decode cX5_fate 85 = .ok (.iaload, 1) := by decide +kernel
theorem dX5_fate_86 : decode cX5_fate 86 = .ok (.ifCond .ne 7, 3) := by decide +kernel
theorem dX5_fate_89 : decode cX5_fate 89 = .ok (.iconst (-1), 1) := by decide +kernel
theorem dX5_fate_90 : decode cX5_fate 90 = .ok (.goto 15, 3) := by decide +kernel
theorem dX5_fate_93 : decode cX5_fate 93 = .ok (.aload_n 0, 1) := by decide +kernel
theorem dX5_fate_94 : decode cX5_fate 94 = .ok (.getfield 51, 3) := by decide +kernel
theorem dX5_fate_97 : decode cX5_fate 97 = .ok (.getfield 58, 3) := by decide +kernel
theorem dX5_fate_100 : decode cX5_fate 100 = .ok (.iconst 1, 1) := by decide +kernel
theorem dX5_fate_101 : decode cX5_fate 101 = .ok (.isub, 1) := by decide +kernel
theorem dX5_fate_102 : decode cX5_fate 102 = .ok (.bipush 6, 2) := by decide +kernel
theorem dX5_fate_104 : decode cX5_fate 104 = .ok (.irem, 1) := by decide +kernel
theorem dX5_fate_105 : decode cX5_fate 105 = .ok (.ireturn, 1) := by decide +kernel
set_option maxRecDepth 20000 in
theorem ggX5_advise_X5_isBelow : GoodIn wsX5_advise wsX5_isBelow := goodIn_r _ [10] rfl (by decide +kernel)
set_option maxRecDepth 20000 in
theorem gX5_advise_X5_isBelow : GoodIn wsX5_advise (va_wsS RX5 100 yX5_isBelow wsX5_isBelow) := goodIn_app (goodIn_of _ (by decide +kernel)) ggX5_advise_X5_isBelow
set_option maxRecDepth 20000 in
theorem ggX5_advise_X0_become : GoodIn wsX5_advise wsX0_become := goodIn_r _ [15, 16, 17, 18, 19, 20, 21, 22, 23, 24, 25, 26, 27, 28, 29, 30, 31, 32, 33, 134, 135, 136, 137, 138, 139, 140, 141, 142, 143, 144, 145, 146, 147, 148] rfl (by decide +kernel)
set_option maxRecDepth 20000 in
theorem gX5_advise_X0_become : GoodIn wsX5_advise (wsV RX5 184 RX0 yX0_become wsX0_become) := goodIn_app (goodIn_of _ (by decide +kernel)) ggX5_advise_X0_become
set_option maxRecDepth 20000 in
theorem ggX5_advise_X0_passHours : GoodIn wsX5_advise wsX0_passHours := goodIn_r _ [37, 31, 27, 21, 28, 30, 38, 39, 40, 14, 41, 33, 22, 23, 42, 43, 44, 45, 46, 47, 48, 49, 50, 51, 52, 53, 25, 24, 54, 55, 56, 57, 58, 59, 60, 61, 62, 63, 64, 65, 66, 67, 68, 69, 70, 71, 9, 72, 73, 74, 5, 75, 3, 4, 6, 76, 77, 78, 79, 80, 81, 82, 83, 84, 85, 86, 29, 26, 87, 134, 135, 136, 137, 138, 139, 140, 141, 142, 143, 144, 145, 146, 147, 148, 149, 150, 151, 152] rfl (by decide +kernel)
set_option maxRecDepth 20000 in
theorem gX5_advise_X0_passHours : GoodIn wsX5_advise (wsV RX5 181 RX0 yX0_passHours wsX0_passHours) := goodIn_app (goodIn_of _ (by decide +kernel)) ggX5_advise_X0_passHours
set_option maxRecDepth 20000 in
theorem ggX5_advise_X0_verdict : GoodIn wsX5_advise wsX0_verdict := goodIn_r _ [91, 30, 92, 93, 94, 14, 95, 16, 134, 135, 136, 137, 138, 139, 140, 141, 142, 143, 144, 145, 146, 147, 148] rfl (by decide +kernel)
set_option maxRecDepth 20000 in
theorem gX5_advise_X0_verdict : GoodIn wsX5_advise (wsV RX5 97 RX0 yX0_verdict wsX0_verdict) := goodIn_app (goodIn_of _ (by decide +kernel)) ggX5_advise_X0_verdict
set_option maxRecDepth 20000 in
theorem ggX5_advise_X0_canLetFall : GoodIn wsX5_advise wsX0_canLetFall := goodIn_r _ [99, 24, 61, 62, 63, 14, 64, 27, 134, 135, 136, 137, 138, 139, 140, 141, 142, 143, 144, 145, 146, 147, 148] rfl (by decide +kernel)
set_option maxRecDepth 20000 in
theorem gX5_advise_X0_canLetFall : GoodIn wsX5_advise (wsV RX5 175 RX0 yX0_canLetFall wsX0_canLetFall) := goodIn_app (goodIn_of _ (by decide +kernel)) ggX5_advise_X0_canLetFall
set_option maxRecDepth 20000 in
theorem ggX5_advise_X0_letFall : GoodIn wsX5_advise wsX0_letFall := goodIn_r _ [103, 27, 28, 29, 104, 105, 106, 14, 107, 24, 22, 33, 23, 54, 55, 56, 57, 58, 59, 60, 42, 43, 44, 45, 46, 47, 48, 49, 50, 51, 52, 53, 25, 31, 30, 61, 62, 63, 64, 65, 66, 67, 68, 69, 70, 71, 9, 72, 73, 74, 5, 75, 3, 4, 6, 108, 109, 78, 110, 111, 112, 113, 114, 115, 116, 117, 118, 119, 120, 121, 122, 134, 135, 136, 137, 138, 139, 140, 141, 142, 143, 144, 145, 146, 147, 148, 149, 150, 151, 152] rfl (by decide +kernel)
set_option maxRecDepth 20000 in
theorem gX5_advise_X0_letFall : GoodIn wsX5_advise (wsV RX5 178 RX0 yX0_letFall wsX0_letFall) := goodIn_app (goodIn_of _ (by decide +kernel)) ggX5_advise_X0_letFall
theorem dX5_advise_0 : decode cX5_advise 0 = .ok (.iload_n 1, 1) := by decide +kernel
theorem dX5_advise_1 : decode cX5_advise 1 = .ok (.bipush 41, 2) := by decide +kernel
theorem dX5_advise_3 : decode cX5_advise 3 = .ok (.invokestatic 100, 3) := by decide +kernel
theorem dX5_advise_6 : decode cX5_advise 6 = .ok (.ifCond .eq 11, 3) := by decide +kernel
theorem dX5_advise_9 : decode cX5_advise 9 = .ok (.iload_n 2, 1) := by decide +kernel
theorem dX5_advise_10 : decode cX5_advise 10 = .ok (.iconst 2, 1) := by decide +kernel
theorem dX5_advise_11 : decode cX5_advise 11 = .ok (.invokestatic 100, 3) := by decide +kernel
theorem dX5_advise_14 : decode cX5_advise 14 = .ok (.ifCond .ne 7, 3) := by decide +kernel
theorem dX5_advise_17 : decode cX5_advise 17 = .ok (.sipush (-5000), 3) := by decide +kernel
theorem dX5_advise_20 : decode cX5_advise 20 = .ok (.ireturn, 1) := by decide +kernel
theorem dX5_advise_21 : decode cX5_advise 21 = .ok (.aload_n 0, 1) := by decide +kernel
theorem dX5_advise_22 : decode cX5_advise 22 = .ok (.getfield 51, 3) := by decide +kernel
theorem dX5_advise_25 : decode cX5_advise 25 = .ok (.aload_n 0, 1) := by decide +kernel
theorem dX5_advise_26 : decode cX5_advise 26 = .ok (.getfield 44, 3) := by decide +kernel
theorem dX5_advise_29 : decode cX5_advise 29 = .ok (.invokevirtual 184, 3) := by decide +kernel
theorem dX5_advise_32 : decode cX5_advise 32 = .ok (.aload_n 0, 1) := by decide +kernel
theorem dX5_advise_33 : decode cX5_advise 33 = .ok (.getfield 51, 3) := by decide +kernel
theorem dX5_advise_36 : decode cX5_advise 36 = .ok (.iload_n 1, 1) := by decide +kernel
theorem dX5_advise_37 : decode cX5_advise 37 = .ok (.invokevirtual 181, 3) := by decide +kernel
theorem dX5_advise_40 : decode cX5_advise 40 = .ok (.pop, 1) := by decide +kernel
theorem dX5_advise_41 : decode cX5_advise 41 = .ok (.iconst (-1), 1) := by decide +kernel
theorem dX5_advise_42 : decode cX5_advise 42 = .ok (.istore_n 3, 1) := by decide +kernel
theorem dX5_advise_43 : decode cX5_advise 43 = .ok (.aload_n 0, 1) := by decide +kernel
theorem dX5_advise_44 : decode cX5_advise 44 = .ok (.getfield 51, 3) := by decide +kernel
theorem dX5_advise_47 : decode cX5_advise 47 = .ok (.invokevirtual 97, 3) := by decide +kernel
theorem dX5_advise_50 : decode cX5_advise 50 = .ok (.istore 4, 2) := by decide +kernel
theorem dX5_advise_52 : decode cX5_advise 52 = .ok (.iconst 0, 1) := by decide +kernel
theorem dX5_advise_53 : decode cX5_advise 53 = .ok (.istore 5, 2) := by decide +kernel
theorem dX5_advise_55 : decode cX5_advise 55 = .ok (.iload 5, 2) := by decide +kernel
theorem dX5_advise_57 : decode cX5_advise 57 = .ok (.aload_n 0, 1) := by decide +kernel
theorem dX5_advise_58 : decode cX5_advise 58 = .ok (.getfield 44, 3) := by decide +kernel
theorem dX5_advise_61 : decode cX5_advise 61 = .ok (.getfield 55, 3) := by decide +kernel
theorem dX5_advise_64 : decode cX5_advise 64 = .ok (.if_icmp .ge 83, 3) := by decide +kernel
theorem dX5_advise_67 : decode cX5_advise 67 = .ok (.aload_n 0, 1) := by decide +kernel
theorem dX5_advise_68 : decode cX5_advise 68 = .ok (.getfield 44, 3) := by decide +kernel
theorem dX5_advise_71 : decode cX5_advise 71 = .ok (.iload 5, 2) := by decide +kernel
theorem dX5_advise_73 : decode cX5_advise 73 = .ok (.invokevirtual 175, 3) := by decide +kernel
theorem dX5_advise_76 : decode cX5_advise 76 = .ok (.ifCond .eq 65, 3) := by decide +kernel
theorem dX5_advise_79 : decode cX5_advise 79 = .ok (.aload_n 0, 1) := by decide +kernel
theorem dX5_advise_80 : decode cX5_advise 80 = .ok (.getfield 51, 3) := by decide +kernel
theorem dX5_advise_83 : decode cX5_advise 83 = .ok (.aload_n 0, 1) := by decide +kernel
theorem dX5_advise_84 : decode cX5_advise 84 = .ok (.getfield 44, 3) := by decide +kernel
theorem dX5_advise_87 : decode cX5_advise 87 = .ok (.invokevirtual 184, 3) := by decide +kernel
theorem dX5_advise_90 : decode cX5_advise 90 = .ok (.aload_n 0, 1) := by decide +kernel
theorem dX5_advise_91 : decode cX5_advise 91 = .ok (.getfield 51, 3) := by decide +kernel
theorem dX5_advise_94 : decode cX5_advise 94 = .ok (.iload 5, 2) := by decide +kernel
theorem dX5_advise_96 : decode cX5_advise 96 = .ok (.invokevirtual 178, 3) := by decide +kernel
theorem dX5_advise_99 : decode cX5_advise 99 = .ok (.pop, 1) := by decide +kernel
theorem dX5_advise_100 : decode cX5_advise 100 = .ok (.aload_n 0, 1) := by decide +kernel
theorem dX5_advise_101 : decode cX5_advise 101 = .ok (.getfield 51, 3) := by decide +kernel
theorem dX5_advise_104 : decode cX5_advise 104 = .ok (.iload_n 1, 1) := by decide +kernel
theorem dX5_advise_105 : decode cX5_advise 105 = .ok (.invokevirtual 181, 3) := by decide +kernel
theorem dX5_advise_108 : decode cX5_advise 108 = .ok (.pop, 1) := by decide +kernel
theorem dX5_advise_109 : decode cX5_advise 109 = .ok (.aload_n 0, 1) := by decide +kernel
theorem dX5_advise_110 : decode cX5_advise 110 = .ok (.getfield 51, 3) := by decide +kernel
theorem dX5_advise_113 : decode cX5_advise 113 = .ok (.invokevirtual 97, 3) := by decide +kernel
theorem dX5_advise_116 : decode cX5_advise 116 = .ok (.istore 6, 2) := by decide +kernel
theorem dX5_advise_118 : decode cX5_advise 118 = .ok (.iload 6, 2) := by decide +kernel
theorem dX5_advise_120 : decode cX5_advise 120 = .ok (.iload 4, 2) := by decide +kernel
theorem dX5_advise_122 : decode cX5_advise 122 = .ok (.if_icmp .le 8, 3) := by decide +kernel
theorem dX5_advise_125 : decode cX5_advise 125 = .ok (.iload 5, 2) := by decide +kernel
theorem dX5_advise_127 : decode cX5_advise 127 = .ok (.goto 4, 3) := by decide +kernel
theorem dX5_advise_130 : decode cX5_advise 130 = .ok (.iload_n 3, 1) := by decide +kernel
theorem dX5_advise_131 : decode cX5_advise 131 = .ok (.istore_n 3, 1) := by decide +kernel
theorem dX5_advise_132 : decode cX5_advise 132 = .ok (.iload 6, 2) := by decide +kernel
theorem dX5_advise_134 : decode cX5_advise 134 = .ok (.iload 4, 2) := by decide +kernel
theorem dX5_advise_136 : decode cX5_advise 136 = .ok (.invokestatic 191, 3) := by decide +kernel
theorem dX5_advise_139 : decode cX5_advise 139 = .ok (.istore 4, 2) := by decide +kernel
theorem dX5_advise_141 : decode cX5_advise 141 = .ok (.iinc 5 1, 3) := by decide +kernel
theorem dX5_advise_144 : decode cX5_advise 144 = .ok (.goto (-89), 3) := by decide +kernel
theorem dX5_advise_147 : decode cX5_advise 147 = .ok (.iload_n 2, 1) := by decide +kernel
theorem dX5_advise_148 : decode cX5_advise 148 = .ok (.ifCond .ne 7, 3) := by decide +kernel
theorem dX5_advise_151 : decode cX5_advise 151 = .ok (.iload_n 3, 1) := by decide +kernel
theorem dX5_advise_152 : decode cX5_advise 152 = .ok (.goto 5, 3) := by decide +kernel
theorem dX5_advise_155 : decode cX5_advise 155 = .ok (.iload 4, 2) := by decide +kernel
theorem dX5_advise_157 : decode cX5_advise 157 = .ok (.ireturn, 1) := by decide +kernel
set_option maxRecDepth 20000 in
theorem ggX5_turn_X5_isBelow : GoodIn wsX5_turn wsX5_isBelow := goodIn_r _ [5] rfl (by decide +kernel)
set_option maxRecDepth 20000 in
theorem gX5_turn_X5_isBelow : GoodIn wsX5_turn (va_wsS RX5 100 yX5_isBelow wsX5_isBelow) := goodIn_app (goodIn_of _ (by decide +kernel)) ggX5_turn_X5_isBelow
set_option maxRecDepth 20000 in
theorem ggX5_turn_X0_verdict : GoodIn wsX5_turn wsX0_verdict := goodIn_r _ [10, 11, 12, 13, 14, 9, 15, 16, 36, 37, 38, 39, 40, 41, 42, 43, 44, 45, 46, 47, 48, 49, 50] rfl (by decide +kernel)
set_option maxRecDepth 20000 in
theorem gX5_turn_X0_verdict : GoodIn wsX5_turn (wsV RX5 97 RX0 yX0_verdict wsX0_verdict) := goodIn_app (goodIn_of _ (by decide +kernel)) ggX5_turn_X0_verdict
set_option maxRecDepth 20000 in
theorem ggX5_turn_J6_bitCount_0f7a4 : GoodIn wsX5_turn wsJ6_bitCount_0f7a4 := goodIn_r _ [20, 21, 22, 23] rfl (by decide +kernel)
set_option maxRecDepth 20000 in
theorem gX5_turn_J6_bitCount_0f7a4 : GoodIn wsX5_turn (va_wsS RX5 196 yJ6_bitCount_0f7a4 wsJ6_bitCount_0f7a4) := goodIn_app (goodIn_of _ (by decide +kernel)) ggX5_turn_J6_bitCount_0f7a4
set_option maxRecDepth 20000 in
theorem ggX5_turn_X0_weightOf : GoodIn wsX5_turn wsX0_weightOf := goodIn_r _ [15, 16, 36, 37, 38, 39, 40, 41, 42, 43, 44, 45, 46, 47, 48, 49, 50] rfl (by decide +kernel)
set_option maxRecDepth 20000 in
theorem gX5_turn_X0_weightOf : GoodIn wsX5_turn (wsV RX5 201 RX0 yX0_weightOf wsX0_weightOf) := goodIn_app (goodIn_of _ (by decide +kernel)) ggX5_turn_X0_weightOf
theorem dX5_turn_0 : decode cX5_turn 0 = .ok (.iload_n 1, 1) := by decide +kernel
theorem dX5_turn_1 : decode cX5_turn 1 = .ok (.iconst 2, 1) := by decide +kernel
theorem dX5_turn_2 : decode cX5_turn 2 = .ok (.invokestatic 100, 3) := by decide +kernel
theorem dX5_turn_5 : decode cX5_turn 5 = .ok (.ifCond .ne 6, 3) := by decide +kernel
theorem dX5_turn_8 : decode cX5_turn 8 = .ok (.bipush (-2), 2) := by decide +kernel
theorem dX5_turn_10 : decode cX5_turn 10 = .ok (.ireturn, 1) := by decide +kernel
theorem dX5_turn_11 : decode cX5_turn 11 = .ok (.aload_n 0, 1) := by decide +kernel
theorem dX5_turn_12 : decode cX5_turn 12 = .ok (.getfield 44, 3) := by decide +kernel
theorem dX5_turn_15 : decode cX5_turn 15 = .ok (.invokevirtual 97, 3) := by decide +kernel
theorem dX5_turn_18 : decode cX5_turn 18 = .ok (.ifCond .le 7, 3) := by decide +kernel
theorem dX5_turn_21 : decode cX5_turn 21 = .ok (.iconst 1, 1) := by decide +kernel
theorem dX5_turn_22 : decode cX5_turn 22 = .ok (.goto 4, 3) := by decide +kernel
theorem dX5_turn_25 : decode cX5_turn 25 = .ok (.iconst 0, 1) := by decide +kernel
theorem dX5_turn_26 : decode cX5_turn 26 = .ok (.istore_n 2, 1) := by decide +kernel
theorem dX5_turn_27 : decode cX5_turn 27 = .ok (.iconst (-1), 1) := by decide +kernel
theorem dX5_turn_28 : decode cX5_turn 28 = .ok (.istore_n 3, 1) := by decide +kernel
theorem dX5_turn_29 : decode cX5_turn 29 = .ok (.iconst (-1), 1) := by decide +kernel
theorem dX5_turn_30 : decode cX5_turn 30 = .ok (.istore 4, 2) := by decide +kernel
theorem dX5_turn_32 : decode cX5_turn 32 = .ok (.iconst 1, 1) := by decide +kernel
theorem dX5_turn_33 : decode cX5_turn 33 = .ok (.istore 5, 2) := by decide +kernel
theorem dX5_turn_35 : decode cX5_turn 35 = .ok (.iload 5, 2) := by decide +kernel
theorem dX5_turn_37 : decode cX5_turn 37 = .ok (.sipush 1023, 3) := by decide +kernel
theorem dX5_turn_40 : decode cX5_turn 40 = .ok (.if_icmp .gt 90, 3) := by decide +kernel
theorem dX5_turn_43 : decode cX5_turn 43 = .ok (.iload 5, 2) := by decide +kernel
theorem dX5_turn_45 : decode cX5_turn 45 = .ok (.invokestatic 196, 3) := by decide +kernel
theorem dX5_turn_48 : decode cX5_turn 48 = .ok (.istore 6, 2) := by decide +kernel
theorem dX5_turn_50 : decode cX5_turn 50 = .ok (.iload 5, 2) := by decide +kernel
theorem dX5_turn_52 : decode cX5_turn 52 = .ok (.aload_n 0, 1) := by decide +kernel
theorem dX5_turn_53 : decode cX5_turn 53 = .ok (.getfield 44, 3) := by decide +kernel
theorem dX5_turn_56 : decode cX5_turn 56 = .ok (.getfield 94, 3) := by decide +kernel
theorem dX5_turn_59 : decode cX5_turn 59 = .ok (.iand, 1) := by decide +kernel
theorem dX5_turn_60 : decode cX5_turn 60 = .ok (.ifCond .ne 20, 3) := by decide +kernel
theorem dX5_turn_63 : decode cX5_turn 63 = .ok (.iload 4, 2) := by decide +kernel
theorem dX5_turn_65 : decode cX5_turn 65 = .ok (.iconst (-1), 1) := by decide +kernel
theorem dX5_turn_66 : decode cX5_turn 66 = .ok (.if_icmp .eq 10, 3) := by decide +kernel
theorem dX5_turn_69 : decode cX5_turn 69 = .ok (.iload 6, 2) := by decide +kernel
theorem dX5_turn_71 : decode cX5_turn 71 = .ok (.iload 4, 2) := by decide +kernel
theorem dX5_turn_73 : decode cX5_turn 73 = .ok (.if_icmp .ge 7, 3) := by decide +kernel
theorem dX5_turn_76 : decode cX5_turn 76 = .ok (.iconst 1, 1) := by decide +kernel
theorem dX5_turn_77 : decode cX5_turn 77 = .ok (.goto 4, 3) := by decide +kernel
theorem dX5_turn_80 : decode cX5_turn 80 = .ok (.iconst 0, 1) := by decide +kernel
theorem dX5_turn_81 : decode cX5_turn 81 = .ok (.istore 7, 2) := by decide +kernel
theorem dX5_turn_83 : decode cX5_turn 83 = .ok (.iload 7, 2) := by decide +kernel
theorem dX5_turn_85 : decode cX5_turn 85 = .ok (.ifCond .eq 39, 3) := by decide +kernel
theorem dX5_turn_88 : decode cX5_turn 88 = .ok (.aload_n 0, 1) := by decide +kernel
theorem dX5_turn_89 : decode cX5_turn 89 = .ok (.getfield 44, 3) := by decide +kernel
theorem dX5_turn_92 : decode cX5_turn 92 = .ok (.aload_n 0, 1) := by decide +kernel
theorem dX5_turn_93 : decode cX5_turn 93 = .ok (.getfield 44, 3) := by decide +kernel
theorem dX5_turn_96 : decode cX5_turn 96 = .ok (.getfield 94, 3) := by decide +kernel
theorem dX5_turn_99 : decode cX5_turn 99 = .ok (.iload 5, 2) := by decide +kernel
theorem dX5_turn_101 : decode cX5_turn 101 = .ok (.ior, 1) := by decide +kernel
theorem dX5_turn_102 : decode cX5_turn 102 = .ok (.invokevirtual 201, 3) := by decide +kernel
theorem dX5_turn_105 : decode cX5_turn 105 = .ok (.ifCond .le 7, 3) := by decide +kernel
theorem dX5_turn_108 : decode cX5_turn 108 = .ok (.iconst 1, 1) := by decide +kernel
theorem dX5_turn_109 : decode cX5_turn 109 = .ok (.goto 4, 3) := by decide +kernel
theorem dX5_turn_112 : decode cX5_turn 112 = .ok (.iconst 0, 1) := by decide +kernel
theorem dX5_turn_113 : decode cX5_turn 113 = .ok (.iload_n 2, 1) := by decide +kernel
theorem dX5_turn_114 : decode cX5_turn 114 = .ok (.if_icmp .eq 10, 3) := by decide +kernel
theorem dX5_turn_117 : decode cX5_turn 117 = .ok (.iload 5, 2) := by decide +kernel
theorem dX5_turn_119 : decode cX5_turn 119 = .ok (.istore_n 3, 1) := by decide +kernel
theorem dX5_turn_120 : decode cX5_turn 120 = .ok (.iload 6, 2) := by decide +kernel
theorem dX5_turn_122 : decode cX5_turn 122 = .ok (.istore 4, 2) := by decide +kernel
theorem dX5_turn_124 : decode cX5_turn 124 = .ok (.iinc 5 1, 3) := by decide +kernel
theorem dX5_turn_127 : decode cX5_turn 127 = .ok (.goto (-92), 3) := by decide +kernel
theorem dX5_turn_130 : decode cX5_turn 130 = .ok (.iload_n 1, 1) := by decide +kernel
theorem dX5_turn_131 : decode cX5_turn 131 = .ok (.ifCond .ne 7, 3) := by decide +kernel
theorem dX5_turn_134 : decode cX5_turn 134 = .ok (.iload_n 3, 1) := by decide +kernel
theorem dX5_turn_135 : decode cX5_turn 135 = .ok (.goto 5, 3) := by decide +kernel
theorem dX5_turn_138 : decode cX5_turn 138 = .ok (.iload 4, 2) := by decide +kernel
theorem dX5_turn_140 : decode cX5_turn 140 = .ok (.ireturn, 1) := by decide +kernel
set_option maxRecDepth 20000 in
theorem ggX5_gallant_X5_isBelow : GoodIn wsX5_gallant wsX5_isBelow := goodIn_r _ [10] rfl (by decide +kernel)
set_option maxRecDepth 20000 in
theorem gX5_gallant_X5_isBelow : GoodIn wsX5_gallant (va_wsS RX5 100 yX5_isBelow wsX5_isBelow) := goodIn_app (goodIn_of _ (by decide +kernel)) ggX5_gallant_X5_isBelow
set_option maxRecDepth 20000 in
theorem ggX5_gallant_X0_become : GoodIn wsX5_gallant wsX0_become := goodIn_r _ [15, 16, 17, 18, 19, 20, 21, 22, 23, 24, 25, 26, 27, 28, 29, 30, 31, 32, 33, 100, 101, 102, 103, 104, 105, 106, 107, 108, 109, 110, 111, 112, 113, 114] rfl (by decide +kernel)
set_option maxRecDepth 20000 in
theorem gX5_gallant_X0_become : GoodIn wsX5_gallant (wsV RX5 184 RX0 yX0_become wsX0_become) := goodIn_app (goodIn_of _ (by decide +kernel)) ggX5_gallant_X0_become
set_option maxRecDepth 20000 in
theorem ggX5_gallant_X0_passHours : GoodIn wsX5_gallant wsX0_passHours := goodIn_r _ [37, 31, 27, 21, 28, 30, 38, 39, 40, 14, 41, 33, 22, 23, 42, 43, 44, 45, 46, 47, 48, 49, 50, 51, 52, 53, 25, 24, 54, 55, 56, 57, 58, 59, 60, 61, 62, 63, 64, 65, 66, 67, 68, 69, 70, 71, 9, 72, 73, 74, 5, 75, 3, 4, 6, 76, 77, 78, 79, 80, 81, 82, 83, 84, 85, 86, 29, 26, 87, 100, 101, 102, 103, 104, 105, 106, 107, 108, 109, 110, 111, 112, 113, 114, 115, 116, 117, 118] rfl (by decide +kernel)
set_option maxRecDepth 20000 in
theorem gX5_gallant_X0_passHours : GoodIn wsX5_gallant (wsV RX5 181 RX0 yX0_passHours wsX0_passHours) := goodIn_app (goodIn_of _ (by decide +kernel)) ggX5_gallant_X0_passHours
set_option maxRecDepth 20000 in
theorem ggX5_gallant_J6_bitCount_0f7a4 : GoodIn wsX5_gallant wsJ6_bitCount_0f7a4 := goodIn_r _ [57, 58, 59, 60] rfl (by decide +kernel)
set_option maxRecDepth 20000 in
theorem gX5_gallant_J6_bitCount_0f7a4 : GoodIn wsX5_gallant (va_wsS RX5 196 yJ6_bitCount_0f7a4 wsJ6_bitCount_0f7a4) := goodIn_app (goodIn_of _ (by decide +kernel)) ggX5_gallant_J6_bitCount_0f7a4
theorem dX5_gallant_0 : decode cX5_gallant 0 = .ok (.iload_n 1, 1) := by decide +kernel
theorem dX5_gallant_1 : decode cX5_gallant 1 = .ok (.bipush 41, 2) := by decide +kernel
theorem dX5_gallant_3 : decode cX5_gallant 3 = .ok (.invokestatic 100, 3) := by decide +kernel
theorem dX5_gallant_6 : decode cX5_gallant 6 = .ok (.ifCond .eq 11, 3) := by decide +kernel
theorem dX5_gallant_9 : decode cX5_gallant 9 = .ok (.iload_n 2, 1) := by decide +kernel
theorem dX5_gallant_10 : decode cX5_gallant 10 = .ok (.iconst 2, 1) := by decide +kernel
theorem dX5_gallant_11 : decode cX5_gallant 11 = .ok (.invokestatic 100, 3) := by decide +kernel
theorem dX5_gallant_14 : decode cX5_gallant 14 = .ok (.ifCond .ne 6, 3) := by decide +kernel
theorem dX5_gallant_17 : decode cX5_gallant 17 = .ok (.bipush (-2), 2) := by decide +kernel
theorem dX5_gallant_19 : decode cX5_gallant 19 = .ok (.ireturn, 1) := by decide +kernel
theorem dX5_gallant_20 : decode cX5_gallant 20 = .ok (.aload_n 0, 1) := by decide +kernel
theorem dX5_gallant_21 : decode cX5_gallant 21 = .ok (.getfield 51, 3) := by decide +kernel
theorem dX5_gallant_24 : decode cX5_gallant 24 = .ok (.aload_n 0, 1) := by decide +kernel
theorem dX5_gallant_25 : decode cX5_gallant 25 = .ok (.getfield 44, 3) := by decide +kernel
theorem dX5_gallant_28 : decode cX5_gallant 28 = .ok (.invokevirtual 184, 3) := by decide +kernel
theorem dX5_gallant_31 : decode cX5_gallant 31 = .ok (.aload_n 0, 1) := by decide +kernel
theorem dX5_gallant_32 : decode cX5_gallant 32 = .ok (.getfield 51, 3) := by decide +kernel
theorem dX5_gallant_35 : decode cX5_gallant 35 = .ok (.iload_n 1, 1) := by decide +kernel
theorem dX5_gallant_36 : decode cX5_gallant 36 = .ok (.invokevirtual 181, 3) := by decide +kernel
theorem dX5_gallant_39 : decode cX5_gallant 39 = .ok (.pop, 1) := by decide +kernel
theorem dX5_gallant_40 : decode cX5_gallant 40 = .ok (.iconst (-1), 1) := by decide +kernel
theorem dX5_gallant_41 : decode cX5_gallant 41 = .ok (.istore_n 3, 1) := by decide +kernel
theorem dX5_gallant_42 : decode cX5_gallant 42 = .ok (.aload_n 0, 1) := by decide +kernel
theorem dX5_gallant_43 : decode cX5_gallant 43 = .ok (.getfield 51, 3) := by decide +kernel
theorem dX5_gallant_46 : decode cX5_gallant 46 = .ok (.getfield 94, 3) := by decide +kernel
theorem dX5_gallant_49 : decode cX5_gallant 49 = .ok (.invokestatic 196, 3) := by decide +kernel
theorem dX5_gallant_52 : decode cX5_gallant 52 = .ok (.istore 4, 2) := by decide +kernel
theorem dX5_gallant_54 : decode cX5_gallant 54 = .ok (.iconst 0, 1) := by decide +kernel
theorem dX5_gallant_55 : decode cX5_gallant 55 = .ok (.istore 5, 2) := by decide +kernel
theorem dX5_gallant_57 : decode cX5_gallant 57 = .ok (.iload 5, 2) := by decide +kernel
theorem dX5_gallant_59 : decode cX5_gallant 59 = .ok (.bipush 6, 2) := by decide +kernel
theorem dX5_gallant_61 : decode cX5_gallant 61 = .ok (.if_icmp .ge 76, 3) := by decide +kernel
theorem dX5_gallant_64 : decode cX5_gallant 64 = .ok (.aload_n 0, 1) := by decide +kernel
theorem dX5_gallant_65 : decode cX5_gallant 65 = .ok (.getfield 51, 3) := by decide +kernel
theorem dX5_gallant_68 : decode cX5_gallant 68 = .ok (.aload_n 0, 1) := by decide +kernel
theorem dX5_gallant_69 : decode cX5_gallant 69 = .ok (.getfield 44, 3) := by decide +kernel
theorem dX5_gallant_72 : decode cX5_gallant 72 = .ok (.invokevirtual 184, 3) := by decide +kernel
theorem dX5_gallant_75 : decode cX5_gallant 75 = .ok (.aload_n 0, 1) := by decide +kernel
theorem dX5_gallant_76 : decode cX5_gallant 76 = .ok (.getfield 51, 3) := by decide +kernel
theorem dX5_gallant_79 : decode cX5_gallant 79 = .ok (.getfield 87, 3) := by decide +kernel
theorem dX5_gallant_82 : decode cX5_gallant 82 = .ok (.iload 5, 2) := by decide +kernel
theorem dX5_gallant_84 : decode cX5_gallant 84 = .ok (.bipush 99, 2) := by decide +kernel
theorem dX5_gallant_86 : decode cX5_gallant 86 = .ok (.iastore, 1) := by decide +kernel
theorem dX5_gallant_87 : decode cX5_gallant 87 = .ok (.aload_n 0, 1) := by decide +kernel
theorem dX5_gallant_88 : decode cX5_gallant 88 = .ok (.getfield 51, 3) := by decide +kernel
theorem dX5_gallant_91 : decode cX5_gallant 91 = .ok (.iload_n 1, 1) := by decide +kernel
theorem dX5_gallant_92 : decode cX5_gallant 92 = .ok (.invokevirtual 181, 3) := by decide +kernel
theorem dX5_gallant_95 : decode cX5_gallant 95 = .ok (.pop, 1) := by decide +kernel
theorem dX5_gallant_96 : decode cX5_gallant 96 = .ok (.aload_n 0, 1) := by decide +kernel
theorem dX5_gallant_97 : decode cX5_gallant 97 = .ok (.getfield 51, 3) := by decide +kernel
theorem dX5_gallant_100 : decode cX5_gallant 100 = .ok (.getfield 94, 3) := by decide +kernel
theorem dX5_gallant_103 : decode cX5_gallant 103 = .ok (.invokestatic 196, 3) := by decide +kernel
theorem dX5_gallant_106 : decode cX5_gallant 106 = .ok (.istore 6, 2) := by decide +kernel
theorem dX5_gallant_108 : decode cX5_gallant 108 = .ok (.iload 6, 2) := by decide +kernel
theorem dX5_gallant_110 : decode cX5_gallant 110 = .ok (.iload 4, 2) := by decide +kernel
theorem dX5_gallant_112 : decode cX5_gallant 112 = .ok (.if_icmp .le 8, 3) := by decide +kernel
theorem dX5_gallant_115 : decode cX5_gallant 115 = .ok (.iload 5, 2) := by decide +kernel
theorem dX5_gallant_117 : decode cX5_gallant 117 = .ok (.goto 4, 3) := by decide +kernel
theorem dX5_gallant_120 : decode cX5_gallant 120 = .ok (.iload_n 3, 1) := by decide +kernel
theorem dX5_gallant_121 : decode cX5_gallant 121 = .ok (.istore_n 3, 1) := by decide +kernel
theorem dX5_gallant_122 : decode cX5_gallant 122 = .ok (.iload 6, 2) := by decide +kernel
theorem dX5_gallant_124 : decode cX5_gallant 124 = .ok (.iload 4, 2) := by decide +kernel
theorem dX5_gallant_126 : decode cX5_gallant 126 = .ok (.invokestatic 191, 3) := by decide +kernel
theorem dX5_gallant_129 : decode cX5_gallant 129 = .ok (.istore 4, 2) := by decide +kernel
theorem dX5_gallant_131 : decode cX5_gallant 131 = .ok (.iinc 5 1, 3) := by decide +kernel
theorem dX5_gallant_134 : decode cX5_gallant 134 = .ok (.goto (-77), 3) := by decide +kernel
theorem dX5_gallant_137 : decode cX5_gallant 137 = .ok (.iload_n 2, 1) := by decide +kernel
theorem dX5_gallant_138 : decode cX5_gallant 138 = .ok (.ifCond .ne 7, 3) := by decide +kernel
theorem dX5_gallant_141 : decode cX5_gallant 141 = .ok (.iload_n 3, 1) := by decide +kernel
theorem dX5_gallant_142 : decode cX5_gallant 142 = .ok (.goto 5, 3) := by decide +kernel
theorem dX5_gallant_145 : decode cX5_gallant 145 = .ok (.iload 4, 2) := by decide +kernel
theorem dX5_gallant_147 : decode cX5_gallant 147 = .ok (.ireturn, 1) := by decide +kernel
set_option maxRecDepth 20000 in
theorem ggX5_cast_X5_isBelow : GoodIn wsX5_cast wsX5_isBelow := goodIn_r _ [7] rfl (by decide +kernel)
set_option maxRecDepth 20000 in
theorem gX5_cast_X5_isBelow : GoodIn wsX5_cast (va_wsS RX5 100 yX5_isBelow wsX5_isBelow) := goodIn_app (goodIn_of _ (by decide +kernel)) ggX5_cast_X5_isBelow
set_option maxRecDepth 20000 in
theorem ggX5_cast_X5_tryRow : GoodIn wsX5_cast wsX5_tryRow := goodIn_r _ [11, 12, 13, 3, 1, 14, 15, 16, 17, 18, 19, 20, 21, 22, 23, 24, 25, 26, 27, 28, 29, 30, 31, 32, 33, 34, 35, 36, 37, 38, 39, 40, 41, 42, 43, 44, 45, 46, 47, 48, 49, 50, 51, 52, 53, 54, 55, 56, 57, 58, 59, 60, 61, 62, 63, 64, 65, 66, 67, 68, 69, 70, 71, 72, 73, 74, 6, 75, 76, 77, 78, 79, 80, 81, 82, 83, 84, 85, 86, 87, 88, 89, 90, 91, 92, 93, 94, 95, 96, 97, 98, 99, 100, 101, 102, 103, 104, 105, 106, 107, 108, 109, 110, 111, 112, 113, 114, 115, 116, 117, 118, 119, 120, 121, 122, 123, 124, 125, 126, 127, 128, 129, 130, 131, 132, 133, 8, 9, 10, 134, 135, 136, 137, 138, 139, 140, 141, 142, 143, 144, 145, 146, 147, 148, 149, 150, 151, 152, 153, 154, 155, 156, 157, 158, 159, 160, 161, 162, 163] rfl (by decide +kernel)
set_option maxRecDepth 20000 in
theorem gX5_cast_X5_tryRow : GoodIn wsX5_cast (wsV RX5 211 RX5 yX5_tryRow wsX5_tryRow) := goodIn_app (goodIn_of _ (by decide +kernel)) ggX5_cast_X5_tryRow
theorem dX5_cast_0 : decode cX5_cast 0 = .ok (.iload_n 1, 1) := by decide +kernel
theorem dX5_cast_1 : decode cX5_cast 1 = .ok (.iconst 4, 1) := by decide +kernel
theorem dX5_cast_2 : decode cX5_cast 2 = .ok (.invokestatic 100, 3) := by decide +kernel
theorem dX5_cast_5 : decode cX5_cast 5 = .ok (.ifCond .eq 11, 3) := by decide +kernel
theorem dX5_cast_8 : decode cX5_cast 8 = .ok (.iload_n 2, 1) := by decide +kernel
theorem dX5_cast_9 : decode cX5_cast 9 = .ok (.iconst 2, 1) := by decide +kernel
theorem dX5_cast_10 : decode cX5_cast 10 = .ok (.invokestatic 100, 3) := by decide +kernel
theorem dX5_cast_13 : decode cX5_cast 13 = .ok (.ifCond .ne 7, 3) := by decide +kernel
theorem dX5_cast_16 : decode cX5_cast 16 = .ok (.sipush (-5000), 3) := by decide +kernel
theorem dX5_cast_19 : decode cX5_cast 19 = .ok (.ireturn, 1) := by decide +kernel
theorem dX5_cast_20 : decode cX5_cast 20 = .ok (.aload_n 0, 1) := by decide +kernel
theorem dX5_cast_21 : decode cX5_cast 21 = .ok (.iconst 0, 1) := by decide +kernel
theorem dX5_cast_22 : decode cX5_cast 22 = .ok (.putfield 204, 3) := by decide +kernel
theorem dX5_cast_25 : decode cX5_cast 25 = .ok (.aload_n 0, 1) := by decide +kernel
theorem dX5_cast_26 : decode cX5_cast 26 = .ok (.ldc 207, 2) := by decide +kernel
theorem dX5_cast_28 : decode cX5_cast 28 = .ok (.putfield 208, 3) := by decide +kernel
theorem dX5_cast_31 : decode cX5_cast 31 = .ok (.aload_n 0, 1) := by decide +kernel
theorem dX5_cast_32 : decode cX5_cast 32 = .ok (.iconst 0, 1) := by decide +kernel

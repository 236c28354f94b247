theorem dX5_cell_44 : decode cX5_cell 44 = .ok (.ireturn, 1) := by decide +kernel
theorem dX5_cell_45 : decode cX5_cell 45 = .ok (.aload_n 0, 1) := by decide +kernel
theorem dX5_cell_46 : decode cX5_cell 46 = .ok (.getfield 24, 3) := by decide +kernel
theorem dX5_cell_49 : decode cX5_cell 49 = .ok (.iload_n 1, 1) := by decide +kernel
theorem dX5_cell_50 : decode cX5_cell 50 = .ok (.aaload, 1) := by decide +kernel
theorem dX5_cell_51 : decode cX5_cell 51 = .ok (.iload_n 2, 1) := by decide +kernel
theorem dX5_cell_52 : decode cX5_cell 52 = .ok (.iload_n 3, 1) := by decide +kernel
theorem dX5_cell_53 : decode cX5_cell 53 = .ok (.invokevirtual 248, 3) := by decide +kernel
theorem dX5_cell_56 : decode cX5_cell 56 = .ok (.iconst 1, 1) := by decide +kernel
theorem dX5_cell_57 : decode cX5_cell 57 = .ok (.ireturn, 1) := by decide +kernel
set_option maxRecDepth 20000 in
theorem ggX5_copy_X5_isBelow : GoodIn wsX5_copy wsX5_isBelow := goodIn_r _ [9] rfl (by decide +kernel)
set_option maxRecDepth 20000 in
theorem gX5_copy_X5_isBelow : GoodIn wsX5_copy (va_wsS RX5 100 yX5_isBelow wsX5_isBelow) := goodIn_app (goodIn_of _ (by decide +kernel)) ggX5_copy_X5_isBelow
set_option maxRecDepth 20000 in
theorem ggX5_copy_X3_isMissing : GoodIn wsX5_copy wsX3_isMissing := goodIn_r _ [14, 15, 32, 33, 34] rfl (by decide +kernel)
set_option maxRecDepth 20000 in
theorem gX5_copy_X3_isMissing : GoodIn wsX5_copy (wsV RX5 250 RX3 yX3_isMissing wsX3_isMissing) := goodIn_app (goodIn_of _ (by decide +kernel)) ggX5_copy_X3_isMissing
set_option maxRecDepth 20000 in
theorem ggX5_copy_X3_has : GoodIn wsX5_copy wsX3_has := goodIn_r _ [19, 20, 32, 33, 34] rfl (by decide +kernel)
set_option maxRecDepth 20000 in
theorem gX5_copy_X3_has : GoodIn wsX5_copy (wsV RX5 275 RX3 yX3_has wsX3_has) := goodIn_app (goodIn_of _ (by decide +kernel)) ggX5_copy_X3_has
theorem dX5_copy_0 : decode cX5_copy 0 = .ok (.iload_n 1, 1) := by decide +kernel
theorem dX5_copy_1 : decode cX5_copy 1 = .ok (.iconst 4, 1) := by decide +kernel
theorem dX5_copy_2 : decode cX5_copy 2 = .ok (.invokestatic 100, 3) := by decide +kernel
theorem dX5_copy_5 : decode cX5_copy 5 = .ok (.ifCond .eq 11, 3) := by decide +kernel
theorem dX5_copy_8 : decode cX5_copy 8 = .ok (.iload_n 3, 1) := by decide +kernel
theorem dX5_copy_9 : decode cX5_copy 9 = .ok (.iconst 4, 1) := by decide +kernel
theorem dX5_copy_10 : decode cX5_copy 10 = .ok (.invokestatic 100, 3) := by decide +kernel
theorem dX5_copy_13 : decode cX5_copy 13 = .ok (.ifCond .ne 6, 3) := by decide +kernel
theorem dX5_copy_16 : decode cX5_copy 16 = .ok (.bipush (-2), 2) := by decide +kernel
theorem dX5_copy_18 : decode cX5_copy 18 = .ok (.ireturn, 1) := by decide +kernel
theorem dX5_copy_19 : decode cX5_copy 19 = .ok (.aload_n 0, 1) := by decide +kernel
theorem dX5_copy_20 : decode cX5_copy 20 = .ok (.getfield 24, 3) := by decide +kernel
theorem dX5_copy_23 : decode cX5_copy 23 = .ok (.iload_n 1, 1) := by decide +kernel
theorem dX5_copy_24 : decode cX5_copy 24 = .ok (.aaload, 1) := by decide +kernel
theorem dX5_copy_25 : decode cX5_copy 25 = .ok (.astore 6, 2) := by decide +kernel
theorem dX5_copy_27 : decode cX5_copy 27 = .ok (.aload_n 0, 1) := by decide +kernel
theorem dX5_copy_28 : decode cX5_copy 28 = .ok (.getfield 24, 3) := by decide +kernel
theorem dX5_copy_31 : decode cX5_copy 31 = .ok (.iload_n 3, 1) := by decide +kernel
theorem dX5_copy_32 : decode cX5_copy 32 = .ok (.aaload, 1) := by decide +kernel
theorem dX5_copy_33 : decode cX5_copy 33 = .ok (.astore 7, 2) := by decide +kernel
theorem dX5_copy_35 : decode cX5_copy 35 = .ok (.aload 6, 2) := by decide +kernel
theorem dX5_copy_37 : decode cX5_copy 37 = .ok (.invokevirtual 250, 3) := by decide +kernel
theorem dX5_copy_40 : decode cX5_copy 40 = .ok (.ifCond .ne 11, 3) := by decide +kernel
theorem dX5_copy_43 : decode cX5_copy 43 = .ok (.aload 7, 2) := by decide +kernel
theorem dX5_copy_45 : decode cX5_copy 45 = .ok (.invokevirtual 250, 3) := by decide +kernel
theorem dX5_copy_48 : decode cX5_copy 48 = .ok (.ifCond .eq 6, 3) := by decide +kernel
theorem dX5_copy_51 : decode cX5_copy 51 = .ok (.bipush (-11), 2) := by decide +kernel
theorem dX5_copy_53 : decode cX5_copy 53 = .ok (.ireturn, 1) := by decide +kernel
theorem dX5_copy_54 : decode cX5_copy 54 = .ok (.aload 6, 2) := by decide +kernel
theorem dX5_copy_56 : decode cX5_copy 56 = .ok (.getfield 272, 3) := by decide +kernel
theorem dX5_copy_59 : decode cX5_copy 59 = .ok (.aload 7, 2) := by decide +kernel
theorem dX5_copy_61 : decode cX5_copy 61 = .ok (.getfield 272, 3) := by decide +kernel
theorem dX5_copy_64 : decode cX5_copy 64 = .ok (.if_icmp .eq 6, 3) := by decide +kernel
theorem dX5_copy_67 : decode cX5_copy 67 = .ok (.bipush (-13), 2) := by decide +kernel
theorem dX5_copy_69 : decode cX5_copy 69 = .ok (.ireturn, 1) := by decide +kernel
theorem dX5_copy_70 : decode cX5_copy 70 = .ok (.aload 6, 2) := by decide +kernel
theorem dX5_copy_72 : decode cX5_copy 72 = .ok (.iload_n 2, 1) := by decide +kernel
theorem dX5_copy_73 : decode cX5_copy 73 = .ok (.iload 5, 2) := by decide +kernel
theorem dX5_copy_75 : decode cX5_copy 75 = .ok (.invokevirtual 275, 3) := by decide +kernel
theorem dX5_copy_78 : decode cX5_copy 78 = .ok (.ifCond .eq 15, 3) := by decide +kernel
theorem dX5_copy_81 : decode cX5_copy 81 = .ok (.aload 7, 2) := by decide +kernel
theorem dX5_copy_83 : decode cX5_copy 83 = .ok (.iload 4, 2) := by decide +kernel
theorem dX5_copy_85 : decode cX5_copy 85 = .ok (.iload 5, 2) := by decide +kernel
theorem dX5_copy_87 : decode cX5_copy 87 = .ok (.invokevirtual 275, 3) := by decide +kernel
theorem dX5_copy_90 : decode cX5_copy 90 = .ok (.ifCond .ne 6, 3) := by decide +kernel
theorem dX5_copy_93 : decode cX5_copy 93 = .ok (.bipush (-12), 2) := by decide +kernel
theorem dX5_copy_95 : decode cX5_copy 95 = .ok (.ireturn, 1) := by decide +kernel
theorem dX5_copy_96 : decode cX5_copy 96 = .ok (.aload 6, 2) := by decide +kernel
theorem dX5_copy_98 : decode cX5_copy 98 = .ok (.getfield 255, 3) := by decide +kernel
theorem dX5_copy_101 : decode cX5_copy 101 = .ok (.iload_n 2, 1) := by decide +kernel
theorem dX5_copy_102 : decode cX5_copy 102 = .ok (.aload 7, 2) := by decide +kernel
theorem dX5_copy_104 : decode cX5_copy 104 = .ok (.getfield 255, 3) := by decide +kernel
theorem dX5_copy_107 : decode cX5_copy 107 = .ok (.iload 4, 2) := by decide +kernel
theorem dX5_copy_109 : decode cX5_copy 109 = .ok (.iload 5, 2) := by decide +kernel
theorem dX5_copy_111 : decode cX5_copy 111 = .ok (.invokestatic 278, 3) := by decide +kernel
theorem dX5_copy_114 : decode cX5_copy 114 = .ok (.iload 5, 2) := by decide +kernel
theorem dX5_copy_116 : decode cX5_copy 116 = .ok (.ireturn, 1) := by decide +kernel
set_option maxRecDepth 20000 in
theorem ggX5_witnessesBy_X5_isBelow : GoodIn wsX5_witnessesBy wsX5_isBelow := goodIn_r _ [5] rfl (by decide +kernel)
set_option maxRecDepth 20000 in
theorem gX5_witnessesBy_X5_isBelow : GoodIn wsX5_witnessesBy (va_wsS RX5 100 yX5_isBelow wsX5_isBelow) := goodIn_app (goodIn_of _ (by decide +kernel)) ggX5_witnessesBy_X5_isBelow
set_option maxRecDepth 20000 in
theorem ggX5_witnessesBy_X3_isMissing : GoodIn wsX5_witnessesBy wsX3_isMissing := goodIn_r _ [10, 11, 44, 45, 46] rfl (by decide +kernel)
set_option maxRecDepth 20000 in
theorem gX5_witnessesBy_X3_isMissing : GoodIn wsX5_witnessesBy (wsV RX5 250 RX3 yX3_isMissing wsX3_isMissing) := goodIn_app (goodIn_of _ (by decide +kernel)) ggX5_witnessesBy_X3_isMissing
set_option maxRecDepth 20000 in
theorem ggX5_witnessesBy_X3_has : GoodIn wsX5_witnessesBy wsX3_has := goodIn_r _ [15, 16, 44, 45, 46] rfl (by decide +kernel)
set_option maxRecDepth 20000 in
theorem gX5_witnessesBy_X3_has : GoodIn wsX5_witnessesBy (wsV RX5 275 RX3 yX3_has wsX3_has) := goodIn_app (goodIn_of _ (by decide +kernel)) ggX5_witnessesBy_X3_has
set_option maxRecDepth 20000 in
theorem ggX5_witnessesBy_X5_witness : GoodIn wsX5_witnessesBy wsX5_witness := goodIn_r _ [20, 21, 2, 3, 4, 5, 22, 23, 24, 25, 26, 27, 28, 29, 30, 31, 32, 33, 34, 35, 36, 37, 38, 39, 40, 41, 42, 43, 47, 48, 49, 50, 51, 52, 53, 54, 55, 56, 57, 58, 59, 60, 61] rfl (by decide +kernel)
set_option maxRecDepth 20000 in
theorem gX5_witnessesBy_X5_witness : GoodIn wsX5_witnessesBy (wsV RX5 284 RX5 yX5_witness wsX5_witness) := goodIn_app (goodIn_of _ (by decide +kernel)) ggX5_witnessesBy_X5_witness
theorem dX5_witnessesBy_0 : decode cX5_witnessesBy 0 = .ok (.iload_n 1, 1) := by decide +kernel
theorem dX5_witnessesBy_1 : decode cX5_witnessesBy 1 = .ok (.iconst 4, 1) := by decide +kernel
theorem dX5_witnessesBy_2 : decode cX5_witnessesBy 2 = .ok (.invokestatic 100, 3) := by decide +kernel
theorem dX5_witnessesBy_5 : decode cX5_witnessesBy 5 = .ok (.ifCond .eq 21, 3) := by decide +kernel
theorem dX5_witnessesBy_8 : decode cX5_witnessesBy 8 = .ok (.iload_n 2, 1) := by decide +kernel
theorem dX5_witnessesBy_9 : decode cX5_witnessesBy 9 = .ok (.iconst 3, 1) := by decide +kernel
theorem dX5_witnessesBy_10 : decode cX5_witnessesBy 10 = .ok (.invokestatic 100, 3) := by decide +kernel
theorem dX5_witnessesBy_13 : decode cX5_witnessesBy 13 = .ok (.ifCond .eq 13, 3) := by decide +kernel
theorem dX5_witnessesBy_16 : decode cX5_witnessesBy 16 = .ok (.iload 4, 2) := by decide +kernel
theorem dX5_witnessesBy_18 : decode cX5_witnessesBy 18 = .ok (.bipush 7, 2) := by decide +kernel
theorem dX5_witnessesBy_20 : decode cX5_witnessesBy 20 = .ok (.invokestatic 100, 3) := by decide +kernel
theorem dX5_witnessesBy_23 : decode cX5_witnessesBy 23 = .ok (.ifCond .ne 6, 3) := by decide +kernel
theorem dX5_witnessesBy_26 : decode cX5_witnessesBy 26 = .ok (.bipush (-2), 2) := by decide +kernel
theorem dX5_witnessesBy_28 : decode cX5_witnessesBy 28 = .ok (.ireturn, 1) := by decide +kernel
theorem dX5_witnessesBy_29 : decode cX5_witnessesBy 29 = .ok (.aload_n 0, 1) := by decide +kernel
theorem dX5_witnessesBy_30 : decode cX5_witnessesBy 30 = .ok (.getfield 24, 3) := by decide +kernel
theorem dX5_witnessesBy_33 : decode cX5_witnessesBy 33 = .ok (.iload_n 1, 1) := by decide +kernel
theorem dX5_witnessesBy_34 : decode cX5_witnessesBy 34 = .ok (.aaload, 1) := by decide +kernel
theorem dX5_witnessesBy_35 : decode cX5_witnessesBy 35 = .ok (.astore 5, 2) := by decide +kernel
theorem dX5_witnessesBy_37 : decode cX5_witnessesBy 37 = .ok (.aload 5, 2) := by decide +kernel
theorem dX5_witnessesBy_39 : decode cX5_witnessesBy 39 = .ok (.invokevirtual 250, 3) := by decide +kernel
theorem dX5_witnessesBy_42 : decode cX5_witnessesBy 42 = .ok (.ifCond .eq 6, 3) := by decide +kernel
theorem dX5_witnessesBy_45 : decode cX5_witnessesBy 45 = .ok (.bipush (-11), 2) := by decide +kernel
theorem dX5_witnessesBy_47 : decode cX5_witnessesBy 47 = .ok (.ireturn, 1) := by decide +kernel
theorem dX5_witnessesBy_48 : decode cX5_witnessesBy 48 = .ok (.aload 5, 2) := by decide +kernel
theorem dX5_witnessesBy_50 : decode cX5_witnessesBy 50 = .ok (.getfield 272, 3) := by decide +kernel
theorem dX5_witnessesBy_53 : decode cX5_witnessesBy 53 = .ok (.iload_n 2, 1) := by decide +kernel
theorem dX5_witnessesBy_54 : decode cX5_witnessesBy 54 = .ok (.if_icmp .eq 6, 3) := by decide +kernel
theorem dX5_witnessesBy_57 : decode cX5_witnessesBy 57 = .ok (.bipush (-13), 2) := by decide +kernel
theorem dX5_witnessesBy_59 : decode cX5_witnessesBy 59 = .ok (.ireturn, 1) := by decide +kernel
theorem dX5_witnessesBy_60 : decode cX5_witnessesBy 60 = .ok (.iconst 0, 1) := by decide +kernel
theorem dX5_witnessesBy_61 : decode cX5_witnessesBy 61 = .ok (.istore 6, 2) := by decide +kernel
theorem dX5_witnessesBy_63 : decode cX5_witnessesBy 63 = .ok (.iconst 0, 1) := by decide +kernel
theorem dX5_witnessesBy_64 : decode cX5_witnessesBy 64 = .ok (.istore 7, 2) := by decide +kernel
theorem dX5_witnessesBy_66 : decode cX5_witnessesBy 66 = .ok (.iload 7, 2) := by decide +kernel
theorem dX5_witnessesBy_68 : decode cX5_witnessesBy 68 = .ok (.iload 4, 2) := by decide +kernel
theorem dX5_witnessesBy_70 : decode cX5_witnessesBy 70 = .ok (.if_icmp .ge 76, 3) := by decide +kernel
theorem dX5_witnessesBy_73 : decode cX5_witnessesBy 73 = .ok (.iload_n 3, 1) := by decide +kernel
theorem dX5_witnessesBy_74 : decode cX5_witnessesBy 74 = .ok (.iconst 3, 1) := by decide +kernel
theorem dX5_witnessesBy_75 : decode cX5_witnessesBy 75 = .ok (.iload 7, 2) := by decide +kernel
theorem dX5_witnessesBy_77 : decode cX5_witnessesBy 77 = .ok (.imul, 1) := by decide +kernel
theorem dX5_witnessesBy_78 : decode cX5_witnessesBy 78 = .ok (.iadd, 1) := by decide +kernel
theorem dX5_witnessesBy_79 : decode cX5_witnessesBy 79 = .ok (.istore 8, 2) := by decide +kernel
theorem dX5_witnessesBy_81 : decode cX5_witnessesBy 81 = .ok (.aload 5, 2) := by decide +kernel
theorem dX5_witnessesBy_83 : decode cX5_witnessesBy 83 = .ok (.iload 8, 2) := by decide +kernel
theorem dX5_witnessesBy_85 : decode cX5_witnessesBy 85 = .ok (.iconst 3, 1) := by decide +kernel
theorem dX5_witnessesBy_86 : decode cX5_witnessesBy 86 = .ok (.invokevirtual 275, 3) := by decide +kernel
theorem dX5_witnessesBy_89 : decode cX5_witnessesBy 89 = .ok (.ifCond .ne 6, 3) := by decide +kernel
theorem dX5_witnessesBy_92 : decode cX5_witnessesBy 92 = .ok (.bipush (-12), 2) := by decide +kernel
theorem dX5_witnessesBy_94 : decode cX5_witnessesBy 94 = .ok (.ireturn, 1) := by decide +kernel
theorem dX5_witnessesBy_95 : decode cX5_witnessesBy 95 = .ok (.iload 6, 2) := by decide +kernel
theorem dX5_witnessesBy_97 : decode cX5_witnessesBy 97 = .ok (.aload_n 0, 1) := by decide +kernel
theorem dX5_witnessesBy_98 : decode cX5_witnessesBy 98 = .ok (.aload 5, 2) := by decide +kernel
theorem dX5_witnessesBy_100 : decode cX5_witnessesBy 100 = .ok (.getfield 255, 3) := by decide +kernel
theorem dX5_witnessesBy_103 : decode cX5_witnessesBy 103 = .ok (.iload 8, 2) := by decide +kernel
theorem dX5_witnessesBy_105 : decode cX5_witnessesBy 105 = .ok (.iaload, 1) := by decide +kernel
theorem dX5_witnessesBy_106 : decode cX5_witnessesBy 106 = .ok (.aload 5, 2) := by decide +kernel
theorem dX5_witnessesBy_108 : decode cX5_witnessesBy 108 = .ok (.getfield 255, 3) := by decide +kernel
theorem dX5_witnessesBy_111 : decode cX5_witnessesBy 111 = .ok (.iload 8, 2) := by decide +kernel
theorem dX5_witnessesBy_113 : decode cX5_witnessesBy 113 = .ok (.iconst 1, 1) := by decide +kernel
theorem dX5_witnessesBy_114 : decode cX5_witnessesBy 114 = .ok (.iadd, 1) := by decide +kernel
theorem dX5_witnessesBy_115 : decode cX5_witnessesBy 115 = .ok (.iaload, 1) := by decide +kernel
theorem dX5_witnessesBy_116 : decode cX5_witnessesBy 116 = .ok (.aload 5, 2) := by decide +kernel
theorem dX5_witnessesBy_118 : decode cX5_witnessesBy 118 = .ok (.getfield 255, 3) := by decide +kernel
theorem dX5_witnessesBy_121 : decode cX5_witnessesBy 121 = .ok (.iload 8, 2) := by decide +kernel
theorem dX5_witnessesBy_123 : decode cX5_witnessesBy 123 = .ok (.iconst 2, 1) := by decide +kernel
theorem dX5_witnessesBy_124 : decode cX5_witnessesBy 124 = .ok (.iadd, 1) := by decide +kernel
theorem dX5_witnessesBy_125 : decode cX5_witnessesBy 125 = .ok (.iaload, 1) := by decide +kernel
theorem dX5_witnessesBy_126 : decode cX5_witnessesBy 126 = .ok (.invokevirtual 284, 3) := by decide +kernel
theorem dX5_witnessesBy_129 : decode cX5_witnessesBy 129 = .ok (.ifCond .lt 7, 3) := by decide +kernel
theorem dX5_witnessesBy_132 : decode cX5_witnessesBy 132 = .ok (.iconst 1, 1) := by decide +kernel
theorem dX5_witnessesBy_133 : decode cX5_witnessesBy 133 = .ok (.goto 4, 3) := by decide +kernel
theorem dX5_witnessesBy_136 : decode cX5_witnessesBy 136 = .ok (.iconst 0, 1) := by decide +kernel
theorem dX5_witnessesBy_137 : decode cX5_witnessesBy 137 = .ok (.iadd, 1) := by decide +kernel
theorem dX5_witnessesBy_138 : decode cX5_witnessesBy 138 = .ok (.istore 6, 2) := by decide +kernel
theorem dX5_witnessesBy_140 : decode cX5_witnessesBy 140 = .ok (.iinc 7 1, 3) := by decide +kernel
theorem dX5_witnessesBy_143 : decode cX5_witnessesBy 143 = .ok (.goto (-77), 3) := by decide +kernel
theorem dX5_witnessesBy_146 : decode cX5_witnessesBy 146 = .ok (.iload 6, 2) := by decide +kernel
theorem dX5_witnessesBy_148 : decode cX5_witnessesBy 148 = .ok (.ireturn, 1) := by decide +kernel
set_option maxRecDepth 20000 in
theorem ggX5_taken_X5_isBelow : GoodIn wsX5_taken wsX5_isBelow := goodIn_r _ [5] rfl (by decide +kernel)
set_option maxRecDepth 20000 in
theorem gX5_taken_X5_isBelow : GoodIn wsX5_taken (va_wsS RX5 100 yX5_isBelow wsX5_isBelow) := goodIn_app (goodIn_of _ (by decide +kernel)) ggX5_taken_X5_isBelow
set_option maxRecDepth 20000 in
theorem ggX5_taken_X0_hasWitness : GoodIn wsX5_taken wsX0_hasWitness := goodIn_r _ [10, 11, 3, 4, 5, 32, 33, 34, 35, 36, 37, 38, 39, 40, 41, 42, 43, 44, 45, 46] rfl (by decide +kernel)
set_option maxRecDepth 20000 in
theorem gX5_taken_X0_hasWitness : GoodIn wsX5_taken (wsV RX5 118 RX0 yX0_hasWitness wsX0_hasWitness) := goodIn_app (goodIn_of _ (by decide +kernel)) ggX5_taken_X0_hasWitness
set_option maxRecDepth 20000 in
theorem ggX5_taken_X0_lies : GoodIn wsX5_taken wsX0_lies := goodIn_r _ [15, 16, 3, 4, 5, 32, 33, 34, 35, 36, 37, 38, 39, 40, 41, 42, 43, 44, 45, 46] rfl (by decide +kernel)
set_option maxRecDepth 20000 in
theorem gX5_taken_X0_lies : GoodIn wsX5_taken (wsV RX5 163 RX0 yX0_lies wsX0_lies) := goodIn_app (goodIn_of _ (by decide +kernel)) ggX5_taken_X0_lies
set_option maxRecDepth 20000 in
theorem ggX5_taken_X1_isOne : GoodIn wsX5_taken wsX1_isOne := goodIn_r _ [20] rfl (by decide +kernel)
set_option maxRecDepth 20000 in
theorem gX5_taken_X1_isOne : GoodIn wsX5_taken (va_wsS RX5 287 yX1_isOne wsX1_isOne) := goodIn_app (goodIn_of _ (by decide +kernel)) ggX5_taken_X1_isOne
theorem dX5_taken_0 : decode cX5_taken 0 = .ok (.iload_n 2, 1) := by decide +kernel
theorem dX5_taken_1 : decode cX5_taken 1 = .ok (.bipush 7, 2) := by decide +kernel
theorem dX5_taken_3 : decode cX5_taken 3 = .ok (.invokestatic 100, 3) := by decide +kernel
theorem dX5_taken_6 : decode cX5_taken 6 = .ok (.ifCond .ne 6, 3) := by decide +kernel
theorem dX5_taken_9 : decode cX5_taken 9 = .ok (.bipush (-2), 2) := by decide +kernel
theorem dX5_taken_11 : decode cX5_taken 11 = .ok (.ireturn, 1) := by decide +kernel
theorem dX5_taken_12 : decode cX5_taken 12 = .ok (.iload_n 1, 1) := by decide +kernel
theorem dX5_taken_13 : decode cX5_taken 13 = .ok (.bipush 14, 2) := by decide +kernel
theorem dX5_taken_15 : decode cX5_taken 15 = .ok (.invokestatic 100, 3) := by decide +kernel
theorem dX5_taken_18 : decode cX5_taken 18 = .ok (.ifCond .ne 6, 3) := by decide +kernel
theorem dX5_taken_21 : decode cX5_taken 21 = .ok (.bipush (-12), 2) := by decide +kernel
theorem dX5_taken_23 : decode cX5_taken 23 = .ok (.ireturn, 1) := by decide +kernel
theorem dX5_taken_24 : decode cX5_taken 24 = .ok (.iload_n 1, 1) := by decide +kernel
theorem dX5_taken_25 : decode cX5_taken 25 = .ok (.bipush 6, 2) := by decide +kernel
theorem dX5_taken_27 : decode cX5_taken 27 = .ok (.if_icmp .ge 7, 3) := by decide +kernel
theorem dX5_taken_30 : decode cX5_taken 30 = .ok (.iconst 1, 1) := by decide +kernel
theorem dX5_taken_31 : decode cX5_taken 31 = .ok (.goto 4, 3) := by decide +kernel
theorem dX5_taken_34 : decode cX5_taken 34 = .ok (.iconst 0, 1) := by decide +kernel
theorem dX5_taken_35 : decode cX5_taken 35 = .ok (.istore_n 3, 1) := by decide +kernel
theorem dX5_taken_36 : decode cX5_taken 36 = .ok (.iload_n 3, 1) := by decide +kernel
theorem dX5_taken_37 : decode cX5_taken 37 = .ok (.ifCond .eq 17, 3) := by decide +kernel
theorem dX5_taken_40 : decode cX5_taken 40 = .ok (.aload_n 0, 1) := by decide +kernel
theorem dX5_taken_41 : decode cX5_taken 41 = .ok (.getfield 44, 3) := by decide +kernel
theorem dX5_taken_44 : decode cX5_taken 44 = .ok (.iload_n 1, 1) := by decide +kernel
theorem dX5_taken_45 : decode cX5_taken 45 = .ok (.invokevirtual 118, 3) := by decide +kernel
theorem dX5_taken_48 : decode cX5_taken 48 = .ok (.ifCond .ne 23, 3) := by decide +kernel
theorem dX5_taken_51 : decode cX5_taken 51 = .ok (.goto 17, 3) := by decide +kernel
theorem dX5_taken_54 : decode cX5_taken 54 = .ok (.aload_n 0, 1) := by decide +kernel
theorem dX5_taken_55 : decode cX5_taken 55 = .ok (.getfield 44, 3) := by decide +kernel
theorem dX5_taken_58 : decode cX5_taken 58 = .ok (.iload_n 1, 1) := by decide +kernel
theorem dX5_taken_59 : decode cX5_taken 59 = .ok (.bipush 6, 2) := by decide +kernel
theorem dX5_taken_61 : decode cX5_taken 61 = .ok (.isub, 1) := by decide +kernel
theorem dX5_taken_62 : decode cX5_taken 62 = .ok (.invokevirtual 163, 3) := by decide +kernel
theorem dX5_taken_65 : decode cX5_taken 65 = .ok (.ifCond .ne 6, 3) := by decide +kernel
theorem dX5_taken_68 : decode cX5_taken 68 = .ok (.bipush (-11), 2) := by decide +kernel
theorem dX5_taken_70 : decode cX5_taken 70 = .ok (.ireturn, 1) := by decide +kernel
theorem dX5_taken_71 : decode cX5_taken 71 = .ok (.iload_n 3, 1) := by decide +kernel
theorem dX5_taken_72 : decode cX5_taken 72 = .ok (.ifCond .eq 26, 3) := by decide +kernel
theorem dX5_taken_75 : decode cX5_taken 75 = .ok (.aload_n 0, 1) := by decide +kernel
theorem dX5_taken_76 : decode cX5_taken 76 = .ok (.getfield 44, 3) := by decide +kernel
theorem dX5_taken_79 : decode cX5_taken 79 = .ok (.getfield 138, 3) := by decide +kernel
theorem dX5_taken_82 : decode cX5_taken 82 = .ok (.iload_n 1, 1) := by decide +kernel
theorem dX5_taken_83 : decode cX5_taken 83 = .ok (.iaload, 1) := by decide +kernel
theorem dX5_taken_84 : decode cX5_taken 84 = .ok (.iload_n 2, 1) := by decide +kernel
theorem dX5_taken_85 : decode cX5_taken 85 = .ok (.invokestatic 287, 3) := by decide +kernel
theorem dX5_taken_88 : decode cX5_taken 88 = .ok (.ifCond .eq 7, 3) := by decide +kernel
theorem dX5_taken_91 : decode cX5_taken 91 = .ok (.iload_n 1, 1) := by decide +kernel
theorem dX5_taken_92 : decode cX5_taken 92 = .ok (.goto 5, 3) := by decide +kernel
theorem dX5_taken_95 : decode cX5_taken 95 = .ok (.bipush (-13), 2) := by decide +kernel
theorem dX5_taken_97 : decode cX5_taken 97 = .ok (.ireturn, 1) := by decide +kernel
theorem dX5_taken_98 : decode cX5_taken 98 = .ok (.iload_n 2, 1) := by decide +kernel
theorem dX5_taken_99 : decode cX5_taken 99 = .ok (.bipush 6, 2) := by decide +kernel
theorem dX5_taken_101 : decode cX5_taken 101 = .ok (.if_icmp .ne 18, 3) := by decide +kernel
theorem dX5_taken_104 : decode cX5_taken 104 = .ok (.aload_n 0, 1) := by decide +kernel
theorem dX5_taken_105 : decode cX5_taken 105 = .ok (.getfield 44, 3) := by decide +kernel
theorem dX5_taken_108 : decode cX5_taken 108 = .ok (.getfield 169, 3) := by decide +kernel
theorem dX5_taken_111 : decode cX5_taken 111 = .ok (.iload_n 1, 1) := by decide +kernel
theorem dX5_taken_112 : decode cX5_taken 112 = .ok (.bipush 6, 2) := by decide +kernel
theorem dX5_taken_114 : decode cX5_taken 114 = .ok (.isub, 1) := by decide +kernel
theorem dX5_taken_115 : decode cX5_taken 115 = .ok (.iaload, 1) := by decide +kernel
theorem dX5_taken_116 : decode cX5_taken 116 = .ok (.goto 5, 3) := by decide +kernel
theorem dX5_taken_119 : decode cX5_taken 119 = .ok (.bipush (-13), 2) := by decide +kernel
theorem dX5_taken_121 : decode cX5_taken 121 = .ok (.ireturn, 1) := by decide +kernel
theorem dX5_replaced_0 : decode cX5_replaced 0 = .ok (.aload_n 0, 1) := by decide +kernel
theorem dX5_replaced_1 : decode cX5_replaced 1 = .ok (.iload_n 1, 1) := by decide +kernel
theorem dX5_replaced_2 : decode cX5_replaced 2 = .ok (.iaload, 1) := by decide +kernel
theorem dX5_replaced_3 : decode cX5_replaced 3 = .ok (.istore_n 3, 1) := by decide +kernel
theorem dX5_replaced_4 : decode cX5_replaced 4 = .ok (.aload_n 0, 1) := by decide +kernel
theorem dX5_replaced_5 : decode cX5_replaced 5 = .ok (.iload_n 1, 1) := by decide +kernel
theorem dX5_replaced_6 : decode cX5_replaced 6 = .ok (.iload_n 2, 1) := by decide +kernel
theorem dX5_replaced_7 : decode cX5_replaced 7 = .ok (.iastore, 1) := by decide +kernel
theorem dX5_replaced_8 : decode cX5_replaced 8 = .ok (.iload_n 3, 1) := by decide +kernel
theorem dX5_replaced_9 : decode cX5_replaced 9 = .ok (.ireturn, 1) := by decide +kernel

theorem dX6_witness_114 : decode cX6_witness 114 = .ok (.getfield 78, 3) := by decide +kernel
theorem dX6_witness_117 : decode cX6_witness 117 = .ok (.iconst 1, 1) := by decide +kernel
theorem dX6_witness_118 : decode cX6_witness 118 = .ok (.iadd, 1) := by decide +kernel
theorem dX6_witness_119 : decode cX6_witness 119 = .ok (.putfield 78, 3) := by decide +kernel
theorem dX6_witness_122 : decode cX6_witness 122 = .ok (.aload_n 0, 1) := by decide +kernel
theorem dX6_witness_123 : decode cX6_witness 123 = .ok (.getfield 78, 3) := by decide +kernel
theorem dX6_witness_126 : decode cX6_witness 126 = .ok (.iconst 1, 1) := by decide +kernel
theorem dX6_witness_127 : decode cX6_witness 127 = .ok (.isub, 1) := by decide +kernel
theorem dX6_witness_128 : decode cX6_witness 128 = .ok (.ireturn, 1) := by decide +kernel
set_option maxRecDepth 20000 in
theorem ggX6_put_X6_isOne : GoodIn wsX6_put wsX6_isOne := goodIn_r _ [6, 7, 8, 9, 5, 10, 11, 12, 13, 14, 15, 16, 17, 18, 19, 20, 21, 22, 23, 24, 25, 26, 27, 28, 29, 30, 31, 32, 33, 34, 35, 36, 37, 38, 39, 40, 41, 42, 43, 44, 45, 46, 47, 48] rfl (by decide +kernel)
set_option maxRecDepth 20000 in
theorem gX6_put_X6_isOne : GoodIn wsX6_put (wsV RX6 183 RX6 yX6_isOne wsX6_isOne) := goodIn_app (goodIn_of _ (by decide +kernel)) ggX6_put_X6_isOne
set_option maxRecDepth 20000 in
theorem ggX6_put_X6_in : GoodIn wsX6_put wsX6_in := goodIn_r _ [10] rfl (by decide +kernel)
set_option maxRecDepth 20000 in
theorem gX6_put_X6_in : GoodIn wsX6_put (va_wsS RX6 81 yX6_in wsX6_in) := goodIn_app (goodIn_of _ (by decide +kernel)) ggX6_put_X6_in
theorem dX6_put_0 : decode cX6_put 0 = .ok (.aload_n 0, 1) := by decide +kernel
theorem dX6_put_1 : decode cX6_put 1 = .ok (.iload_n 1, 1) := by decide +kernel
theorem dX6_put_2 : decode cX6_put 2 = .ok (.invokevirtual 183, 3) := by decide +kernel
theorem dX6_put_5 : decode cX6_put 5 = .ok (.ifCond .ne 6, 3) := by decide +kernel
theorem dX6_put_8 : decode cX6_put 8 = .ok (.bipush (-5), 2) := by decide +kernel
theorem dX6_put_10 : decode cX6_put 10 = .ok (.ireturn, 1) := by decide +kernel
theorem dX6_put_11 : decode cX6_put 11 = .ok (.iload_n 2, 1) := by decide +kernel
theorem dX6_put_12 : decode cX6_put 12 = .ok (.iconst 0, 1) := by decide +kernel
theorem dX6_put_13 : decode cX6_put 13 = .ok (.iconst 1, 1) := by decide +kernel
theorem dX6_put_14 : decode cX6_put 14 = .ok (.invokestatic 81, 3) := by decide +kernel
theorem dX6_put_17 : decode cX6_put 17 = .ok (.ifCond .eq 23, 3) := by decide +kernel
theorem dX6_put_20 : decode cX6_put 20 = .ok (.iload_n 3, 1) := by decide +kernel
theorem dX6_put_21 : decode cX6_put 21 = .ok (.iconst 0, 1) := by decide +kernel
theorem dX6_put_22 : decode cX6_put 22 = .ok (.iload_n 2, 1) := by decide +kernel
theorem dX6_put_23 : decode cX6_put 23 = .ok (.ifCond .ne 9, 3) := by decide +kernel
theorem dX6_put_26 : decode cX6_put 26 = .ok (.sipush 1023, 3) := by decide +kernel
theorem dX6_put_29 : decode cX6_put 29 = .ok (.goto 5, 3) := by decide +kernel
theorem dX6_put_32 : decode cX6_put 32 = .ok (.bipush 99, 2) := by decide +kernel
theorem dX6_put_34 : decode cX6_put 34 = .ok (.invokestatic 81, 3) := by decide +kernel
theorem dX6_put_37 : decode cX6_put 37 = .ok (.ifCond .ne 6, 3) := by decide +kernel
theorem dX6_put_40 : decode cX6_put 40 = .ok (.bipush (-7), 2) := by decide +kernel
theorem dX6_put_42 : decode cX6_put 42 = .ok (.ireturn, 1) := by decide +kernel
theorem dX6_put_43 : decode cX6_put 43 = .ok (.aload_n 0, 1) := by decide +kernel
theorem dX6_put_44 : decode cX6_put 44 = .ok (.getfield 16, 3) := by decide +kernel
theorem dX6_put_47 : decode cX6_put 47 = .ok (.iconst 3, 1) := by decide +kernel
theorem dX6_put_48 : decode cX6_put 48 = .ok (.iload_n 1, 1) := by decide +kernel
theorem dX6_put_49 : decode cX6_put 49 = .ok (.imul, 1) := by decide +kernel
theorem dX6_put_50 : decode cX6_put 50 = .ok (.iload_n 2, 1) := by decide +kernel
theorem dX6_put_51 : decode cX6_put 51 = .ok (.iadd, 1) := by decide +kernel
theorem dX6_put_52 : decode cX6_put 52 = .ok (.iaload, 1) := by decide +kernel
theorem dX6_put_53 : decode cX6_put 53 = .ok (.istore 4, 2) := by decide +kernel
theorem dX6_put_55 : decode cX6_put 55 = .ok (.aload_n 0, 1) := by decide +kernel
theorem dX6_put_56 : decode cX6_put 56 = .ok (.getfield 16, 3) := by decide +kernel
theorem dX6_put_59 : decode cX6_put 59 = .ok (.iconst 3, 1) := by decide +kernel
theorem dX6_put_60 : decode cX6_put 60 = .ok (.iload_n 1, 1) := by decide +kernel
theorem dX6_put_61 : decode cX6_put 61 = .ok (.imul, 1) := by decide +kernel
theorem dX6_put_62 : decode cX6_put 62 = .ok (.iload_n 2, 1) := by decide +kernel
theorem dX6_put_63 : decode cX6_put 63 = .ok (.iadd, 1) := by decide +kernel
theorem dX6_put_64 : decode cX6_put 64 = .ok (.iload_n 3, 1) := by decide +kernel
theorem dX6_put_65 : decode cX6_put 65 = .ok (.iastore, 1) := by decide +kernel
theorem dX6_put_66 : decode cX6_put 66 = .ok (.iload 4, 2) := by decide +kernel
theorem dX6_put_68 : decode cX6_put 68 = .ok (.ireturn, 1) := by decide +kernel
set_option maxRecDepth 20000 in
theorem ggX6_looksOf_X6_asksOf : GoodIn wsX6_looksOf wsX6_asksOf := goodIn_r _ [7, 8, 9, 10, 11, 2, 12, 13, 6, 14, 15, 16, 17, 18, 19, 20, 21, 22, 23, 24, 25, 26, 27, 28, 29, 30, 31, 32, 33, 34, 35, 36, 37, 38, 39, 40, 41, 42, 43, 44, 45, 46, 47, 48, 49, 50, 51, 52, 53, 54, 55, 56, 57, 58, 59, 60, 61, 62, 63, 64, 65, 66, 67, 68, 69, 70, 71, 72, 73, 74, 75, 76, 77, 78, 79] rfl (by decide +kernel)
set_option maxRecDepth 20000 in
theorem gX6_looksOf_X6_asksOf : GoodIn wsX6_looksOf (wsV RX6 186 RX6 yX6_asksOf wsX6_asksOf) := goodIn_app (goodIn_of _ (by decide +kernel)) ggX6_looksOf_X6_asksOf
set_option maxRecDepth 20000 in
theorem ggX6_looksOf_X6_within : GoodIn wsX6_looksOf wsX6_within := goodIn_r _ [29] rfl (by decide +kernel)
set_option maxRecDepth 20000 in
theorem gX6_looksOf_X6_within : GoodIn wsX6_looksOf (va_wsS RX6 85 yX6_within wsX6_within) := goodIn_app (goodIn_of _ (by decide +kernel)) ggX6_looksOf_X6_within
theorem dX6_looksOf_0 : decode cX6_looksOf 0 = .ok (.aload_n 0, 1) := by decide +kernel
theorem dX6_looksOf_1 : decode cX6_looksOf 1 = .ok (.getfield 7, 3) := by decide +kernel
theorem dX6_looksOf_4 : decode cX6_looksOf 4 = .ok (.iload_n 1, 1) := by decide +kernel
theorem dX6_looksOf_5 : decode cX6_looksOf 5 = .ok (.iaload, 1) := by decide +kernel
theorem dX6_looksOf_6 : decode cX6_looksOf 6 = .ok (.iconst 5, 1) := by decide +kernel
theorem dX6_looksOf_7 : decode cX6_looksOf 7 = .ok (.if_icmp .ne 5, 3) := by decide +kernel
theorem dX6_looksOf_10 : decode cX6_looksOf 10 = .ok (.iconst 0, 1) := by decide +kernel
theorem dX6_looksOf_11 : decode cX6_looksOf 11 = .ok (.ireturn, 1) := by decide +kernel
theorem dX6_looksOf_12 : decode cX6_looksOf 12 = .ok (.aload_n 0, 1) := by decide +kernel
theorem dX6_looksOf_13 : decode cX6_looksOf 13 = .ok (.iconst 0, 1) := by decide +kernel
theorem dX6_looksOf_14 : decode cX6_looksOf 14 = .ok (.iload_n 1, 1) := by decide +kernel
theorem dX6_looksOf_15 : decode cX6_looksOf 15 = .ok (.invokevirtual 186, 3) := by decide +kernel
theorem dX6_looksOf_18 : decode cX6_looksOf 18 = .ok (.istore_n 3, 1) := by decide +kernel
theorem dX6_looksOf_19 : decode cX6_looksOf 19 = .ok (.iload_n 2, 1) := by decide +kernel
theorem dX6_looksOf_20 : decode cX6_looksOf 20 = .ok (.aload_n 0, 1) := by decide +kernel
theorem dX6_looksOf_21 : decode cX6_looksOf 21 = .ok (.getfield 13, 3) := by decide +kernel
theorem dX6_looksOf_24 : decode cX6_looksOf 24 = .ok (.iload_n 1, 1) := by decide +kernel
theorem dX6_looksOf_25 : decode cX6_looksOf 25 = .ok (.iaload, 1) := by decide +kernel
theorem dX6_looksOf_26 : decode cX6_looksOf 26 = .ok (.bipush 6, 2) := by decide +kernel
theorem dX6_looksOf_28 : decode cX6_looksOf 28 = .ok (.irem, 1) := by decide +kernel
theorem dX6_looksOf_29 : decode cX6_looksOf 29 = .ok (.if_icmp .ne 8, 3) := by decide +kernel
theorem dX6_looksOf_32 : decode cX6_looksOf 32 = .ok (.bipush 99, 2) := by decide +kernel
theorem dX6_looksOf_34 : decode cX6_looksOf 34 = .ok (.goto 4, 3) := by decide +kernel
theorem dX6_looksOf_37 : decode cX6_looksOf 37 = .ok (.iload_n 3, 1) := by decide +kernel
theorem dX6_looksOf_38 : decode cX6_looksOf 38 = .ok (.istore 4, 2) := by decide +kernel
theorem dX6_looksOf_40 : decode cX6_looksOf 40 = .ok (.aload_n 0, 1) := by decide +kernel
theorem dX6_looksOf_41 : decode cX6_looksOf 41 = .ok (.getfield 7, 3) := by decide +kernel
theorem dX6_looksOf_44 : decode cX6_looksOf 44 = .ok (.iload_n 1, 1) := by decide +kernel
theorem dX6_looksOf_45 : decode cX6_looksOf 45 = .ok (.iaload, 1) := by decide +kernel
theorem dX6_looksOf_46 : decode cX6_looksOf 46 = .ok (.tableswitch 66 1 4 #[30, 33, 50, 33], 30) := by decide +kernel
theorem dX6_looksOf_76 : decode cX6_looksOf 76 = .ok (.iload 4, 2) := by decide +kernel
theorem dX6_looksOf_78 : decode cX6_looksOf 78 = .ok (.ireturn, 1) := by decide +kernel
theorem dX6_looksOf_79 : decode cX6_looksOf 79 = .ok (.iload_n 3, 1) := by decide +kernel
theorem dX6_looksOf_80 : decode cX6_looksOf 80 = .ok (.iconst 5, 1) := by decide +kernel
theorem dX6_looksOf_81 : decode cX6_looksOf 81 = .ok (.aload_n 0, 1) := by decide +kernel
theorem dX6_looksOf_82 : decode cX6_looksOf 82 = .ok (.getfield 13, 3) := by decide +kernel
theorem dX6_looksOf_85 : decode cX6_looksOf 85 = .ok (.iload_n 1, 1) := by decide +kernel
theorem dX6_looksOf_86 : decode cX6_looksOf 86 = .ok (.iaload, 1) := by decide +kernel
theorem dX6_looksOf_87 : decode cX6_looksOf 87 = .ok (.imul, 1) := by decide +kernel
theorem dX6_looksOf_88 : decode cX6_looksOf 88 = .ok (.isub, 1) := by decide +kernel
theorem dX6_looksOf_89 : decode cX6_looksOf 89 = .ok (.iconst 0, 1) := by decide +kernel
theorem dX6_looksOf_90 : decode cX6_looksOf 90 = .ok (.bipush 99, 2) := by decide +kernel
theorem dX6_looksOf_92 : decode cX6_looksOf 92 = .ok (.invokestatic 85, 3) := by decide +kernel
theorem dX6_looksOf_95 : decode cX6_looksOf 95 = .ok (.ireturn, 1) := by decide +kernel
theorem dX6_looksOf_96 : decode cX6_looksOf 96 = .ok (.iload_n 2, 1) := by decide +kernel
theorem dX6_looksOf_97 : decode cX6_looksOf 97 = .ok (.iconst 2, 1) := by decide +kernel
theorem dX6_looksOf_98 : decode cX6_looksOf 98 = .ok (.irem, 1) := by decide +kernel
theorem dX6_looksOf_99 : decode cX6_looksOf 99 = .ok (.ifCond .ne 10, 3) := by decide +kernel
theorem dX6_looksOf_102 : decode cX6_looksOf 102 = .ok (.iload 4, 2) := by decide +kernel
theorem dX6_looksOf_104 : decode cX6_looksOf 104 = .ok (.iconst 2, 1) := by decide +kernel
theorem dX6_looksOf_105 : decode cX6_looksOf 105 = .ok (.idiv, 1) := by decide +kernel
theorem dX6_looksOf_106 : decode cX6_looksOf 106 = .ok (.goto 5, 3) := by decide +kernel
theorem dX6_looksOf_109 : decode cX6_looksOf 109 = .ok (.iload 4, 2) := by decide +kernel
theorem dX6_looksOf_111 : decode cX6_looksOf 111 = .ok (.ireturn, 1) := by decide +kernel
theorem dX6_looksOf_112 : decode cX6_looksOf 112 = .ok (.iload_n 3, 1) := by decide +kernel
theorem dX6_looksOf_113 : decode cX6_looksOf 113 = .ok (.ireturn, 1) := by decide +kernel
set_option maxRecDepth 20000 in
theorem ggX6_waitsOf_X6_asksOf : GoodIn wsX6_waitsOf wsX6_asksOf := goodIn_r _ [8, 9, 10, 2, 11, 3, 12, 13, 7, 14, 15, 16, 17, 18, 19, 20, 21, 22, 23, 24, 25, 26, 27, 28, 29, 30, 31, 32, 33, 34, 35, 36, 37, 38, 39, 40, 41, 42, 43, 44, 45, 46, 47, 48, 49, 50, 51, 52, 53, 54, 55, 56, 57, 58, 59, 60, 61, 62, 63, 64, 65, 66, 67, 68, 69, 70, 71, 72, 73, 74, 75, 76, 77, 78, 79] rfl (by decide +kernel)
set_option maxRecDepth 20000 in
theorem gX6_waitsOf_X6_asksOf : GoodIn wsX6_waitsOf (wsV RX6 186 RX6 yX6_asksOf wsX6_asksOf) := goodIn_app (goodIn_of _ (by decide +kernel)) ggX6_waitsOf_X6_asksOf
set_option maxRecDepth 20000 in
theorem ggX6_waitsOf_X6_within : GoodIn wsX6_waitsOf wsX6_within := goodIn_r _ [29] rfl (by decide +kernel)
set_option maxRecDepth 20000 in
theorem gX6_waitsOf_X6_within : GoodIn wsX6_waitsOf (va_wsS RX6 85 yX6_within wsX6_within) := goodIn_app (goodIn_of _ (by decide +kernel)) ggX6_waitsOf_X6_within
theorem dX6_waitsOf_0 : decode cX6_waitsOf 0 = .ok (.aload_n 0, 1) := by decide +kernel
theorem dX6_waitsOf_1 : decode cX6_waitsOf 1 = .ok (.iconst 1, 1) := by decide +kernel
theorem dX6_waitsOf_2 : decode cX6_waitsOf 2 = .ok (.iload_n 1, 1) := by decide +kernel
theorem dX6_waitsOf_3 : decode cX6_waitsOf 3 = .ok (.invokevirtual 186, 3) := by decide +kernel
theorem dX6_waitsOf_6 : decode cX6_waitsOf 6 = .ok (.istore_n 2, 1) := by decide +kernel
theorem dX6_waitsOf_7 : decode cX6_waitsOf 7 = .ok (.aload_n 0, 1) := by decide +kernel
theorem dX6_waitsOf_8 : decode cX6_waitsOf 8 = .ok (.getfield 7, 3) := by decide +kernel
theorem dX6_waitsOf_11 : decode cX6_waitsOf 11 = .ok (.iload_n 1, 1) := by decide +kernel
theorem dX6_waitsOf_12 : decode cX6_waitsOf 12 = .ok (.iaload, 1) := by decide +kernel
theorem dX6_waitsOf_13 : decode cX6_waitsOf 13 = .ok (.tableswitch 95 1 5 #[35, 95, 45, 76, 86], 35) := by decide +kernel
theorem dX6_waitsOf_48 : decode cX6_waitsOf 48 = .ok (.iload_n 2, 1) := by decide +kernel
theorem dX6_waitsOf_49 : decode cX6_waitsOf 49 = .ok (.iconst 2, 1) := by decide +kernel
theorem dX6_waitsOf_50 : decode cX6_waitsOf 50 = .ok (.idiv, 1) := by decide +kernel
theorem dX6_waitsOf_51 : decode cX6_waitsOf 51 = .ok (.iconst 1, 1) := by decide +kernel
theorem dX6_waitsOf_52 : decode cX6_waitsOf 52 = .ok (.bipush 99, 2) := by decide +kernel
theorem dX6_waitsOf_54 : decode cX6_waitsOf 54 = .ok (.invokestatic 85, 3) := by decide +kernel
theorem dX6_waitsOf_57 : decode cX6_waitsOf 57 = .ok (.ireturn, 1) := by decide +kernel
theorem dX6_waitsOf_58 : decode cX6_waitsOf 58 = .ok (.aload_n 0, 1) := by decide +kernel
theorem dX6_waitsOf_59 : decode cX6_waitsOf 59 = .ok (.getfield 93, 3) := by decide +kernel
theorem dX6_waitsOf_62 : decode cX6_waitsOf 62 = .ok (.iconst 5, 1) := by decide +kernel
theorem dX6_waitsOf_63 : decode cX6_waitsOf 63 = .ok (.irem, 1) := by decide +kernel
theorem dX6_waitsOf_64 : decode cX6_waitsOf 64 = .ok (.ifCond .ne 8, 3) := by decide +kernel
theorem dX6_waitsOf_67 : decode cX6_waitsOf 67 = .ok (.bipush 99, 2) := by decide +kernel
theorem dX6_waitsOf_69 : decode cX6_waitsOf 69 = .ok (.goto 19, 3) := by decide +kernel
theorem dX6_waitsOf_72 : decode cX6_waitsOf 72 = .ok (.iload_n 2, 1) := by decide +kernel
theorem dX6_waitsOf_73 : decode cX6_waitsOf 73 = .ok (.iconst 2, 1) := by decide +kernel
theorem dX6_waitsOf_74 : decode cX6_waitsOf 74 = .ok (.idiv, 1) := by decide +kernel
theorem dX6_waitsOf_75 : decode cX6_waitsOf 75 = .ok (.aload_n 0, 1) := by decide +kernel
theorem dX6_waitsOf_76 : decode cX6_waitsOf 76 = .ok (.getfield 13, 3) := by decide +kernel
theorem dX6_waitsOf_79 : decode cX6_waitsOf 79 = .ok (.iload_n 1, 1) := by decide +kernel
theorem dX6_waitsOf_80 : decode cX6_waitsOf 80 = .ok (.iaload, 1) := by decide +kernel
theorem dX6_waitsOf_81 : decode cX6_waitsOf 81 = .ok (.iadd, 1) := by decide +kernel
theorem dX6_waitsOf_82 : decode cX6_waitsOf 82 = .ok (.iconst 1, 1) := by decide +kernel
theorem dX6_waitsOf_83 : decode cX6_waitsOf 83 = .ok (.bipush 99, 2) := by decide +kernel
theorem dX6_waitsOf_85 : decode cX6_waitsOf 85 = .ok (.invokestatic 85, 3) := by decide +kernel
theorem dX6_waitsOf_88 : decode cX6_waitsOf 88 = .ok (.ireturn, 1) := by decide +kernel
theorem dX6_waitsOf_89 : decode cX6_waitsOf 89 = .ok (.iconst 2, 1) := by decide +kernel
theorem dX6_waitsOf_90 : decode cX6_waitsOf 90 = .ok (.iload_n 2, 1) := by decide +kernel
theorem dX6_waitsOf_91 : decode cX6_waitsOf 91 = .ok (.imul, 1) := by decide +kernel
theorem dX6_waitsOf_92 : decode cX6_waitsOf 92 = .ok (.iconst 1, 1) := by decide +kernel
theorem dX6_waitsOf_93 : decode cX6_waitsOf 93 = .ok (.bipush 99, 2) := by decide +kernel
theorem dX6_waitsOf_95 : decode cX6_waitsOf 95 = .ok (.invokestatic 85, 3) := by decide +kernel
theorem dX6_waitsOf_98 : decode cX6_waitsOf 98 = .ok (.ireturn, 1) := by decide +kernel
theorem dX6_waitsOf_99 : decode cX6_waitsOf 99 = .ok (.iconst 1, 1) := by decide +kernel
theorem dX6_waitsOf_100 : decode cX6_waitsOf 100 = .ok (.aload_n 0, 1) := by decide +kernel
theorem dX6_waitsOf_101 : decode cX6_waitsOf 101 = .ok (.getfield 13, 3) := by decide +kernel
theorem dX6_waitsOf_104 : decode cX6_waitsOf 104 = .ok (.iload_n 1, 1) := by decide +kernel
theorem dX6_waitsOf_105 : decode cX6_waitsOf 105 = .ok (.iaload, 1) := by decide +kernel
theorem dX6_waitsOf_106 : decode cX6_waitsOf 106 = .ok (.iadd, 1) := by decide +kernel
theorem dX6_waitsOf_107 : decode cX6_waitsOf 107 = .ok (.ireturn, 1) := by decide +kernel
theorem dX6_waitsOf_108 : decode cX6_waitsOf 108 = .ok (.iload_n 2, 1) := by decide +kernel
theorem dX6_waitsOf_109 : decode cX6_waitsOf 109 = .ok (.iconst 1, 1) := by decide +kernel
theorem dX6_waitsOf_110 : decode cX6_waitsOf 110 = .ok (.bipush 99, 2) := by decide +kernel
theorem dX6_waitsOf_112 : decode cX6_waitsOf 112 = .ok (.invokestatic 85, 3) := by decide +kernel
theorem dX6_waitsOf_115 : decode cX6_waitsOf 115 = .ok (.ireturn, 1) := by decide +kernel
set_option maxRecDepth 20000 in
theorem ggX6_dropsOf_X6_onesOf : GoodIn wsX6_dropsOf wsX6_onesOf := goodIn_r _ [7] rfl (by decide +kernel)
set_option maxRecDepth 20000 in
theorem gX6_dropsOf_X6_onesOf : GoodIn wsX6_dropsOf (va_wsS RX6 177 yX6_onesOf wsX6_onesOf) := goodIn_app (goodIn_of _ (by decide +kernel)) ggX6_dropsOf_X6_onesOf
set_option maxRecDepth 20000 in
theorem ggX6_dropsOf_X6_asksOf : GoodIn wsX6_dropsOf wsX6_asksOf := goodIn_r _ [11, 12, 1, 13, 14, 3, 4, 5, 6, 7, 15, 16, 17, 18, 19, 20, 21, 22, 23, 24, 25, 26, 27, 28, 29, 30, 31, 32, 33, 34, 35, 36, 37, 38, 39, 40, 41, 45, 46, 47, 48, 49, 50, 51, 52, 53, 54, 55, 56, 57, 58, 59, 60, 61, 62, 63, 64, 65, 66, 67, 68, 69, 70, 71, 72, 73, 74, 75, 76, 77, 78, 79, 80, 81, 82] rfl (by decide +kernel)
set_option maxRecDepth 20000 in
theorem gX6_dropsOf_X6_asksOf : GoodIn wsX6_dropsOf (wsV RX6 186 RX6 yX6_asksOf wsX6_asksOf) := goodIn_app (goodIn_of _ (by decide +kernel)) ggX6_dropsOf_X6_asksOf
set_option maxRecDepth 20000 in
theorem ggX6_dropsOf_X6_nthOf : GoodIn wsX6_dropsOf wsX6_nthOf := goodIn_r _ [44] rfl (by decide +kernel)
set_option maxRecDepth 20000 in
theorem gX6_dropsOf_X6_nthOf : GoodIn wsX6_dropsOf (va_wsS RX6 189 yX6_nthOf wsX6_nthOf) := goodIn_app (goodIn_of _ (by decide +kernel)) ggX6_dropsOf_X6_nthOf
theorem dX6_dropsOf_0 : decode cX6_dropsOf 0 = .ok (.aload_n 0, 1) := by decide +kernel
theorem dX6_dropsOf_1 : decode cX6_dropsOf 1 = .ok (.getfield 16, 3) := by decide +kernel
theorem dX6_dropsOf_4 : decode cX6_dropsOf 4 = .ok (.iconst 3, 1) := by decide +kernel
theorem dX6_dropsOf_5 : decode cX6_dropsOf 5 = .ok (.iload_n 1, 1) := by decide +kernel
theorem dX6_dropsOf_6 : decode cX6_dropsOf 6 = .ok (.imul, 1) := by decide +kernel
theorem dX6_dropsOf_7 : decode cX6_dropsOf 7 = .ok (.iaload, 1) := by decide +kernel
theorem dX6_dropsOf_8 : decode cX6_dropsOf 8 = .ok (.invokestatic 177, 3) := by decide +kernel
theorem dX6_dropsOf_11 : decode cX6_dropsOf 11 = .ok (.istore_n 2, 1) := by decide +kernel
theorem dX6_dropsOf_12 : decode cX6_dropsOf 12 = .ok (.iload_n 2, 1) := by decide +kernel
theorem dX6_dropsOf_13 : decode cX6_dropsOf 13 = .ok (.ifCond .ne 5, 3) := by decide +kernel
theorem dX6_dropsOf_16 : decode cX6_dropsOf 16 = .ok (.iconst (-1), 1) := by decide +kernel
theorem dX6_dropsOf_17 : decode cX6_dropsOf 17 = .ok (.ireturn, 1) := by decide +kernel
theorem dX6_dropsOf_18 : decode cX6_dropsOf 18 = .ok (.aload_n 0, 1) := by decide +kernel
theorem dX6_dropsOf_19 : decode cX6_dropsOf 19 = .ok (.iconst 2, 1) := by decide +kernel
theorem dX6_dropsOf_20 : decode cX6_dropsOf 20 = .ok (.iload_n 1, 1) := by decide +kernel
theorem dX6_dropsOf_21 : decode cX6_dropsOf 21 = .ok (.invokevirtual 186, 3) := by decide +kernel
theorem dX6_dropsOf_24 : decode cX6_dropsOf 24 = .ok (.istore_n 3, 1) := by decide +kernel
theorem dX6_dropsOf_25 : decode cX6_dropsOf 25 = .ok (.iload_n 3, 1) := by decide +kernel
theorem dX6_dropsOf_26 : decode cX6_dropsOf 26 = .ok (.iload_n 2, 1) := by decide +kernel
theorem dX6_dropsOf_27 : decode cX6_dropsOf 27 = .ok (.irem, 1) := by decide +kernel
theorem dX6_dropsOf_28 : decode cX6_dropsOf 28 = .ok (.ifCond .ge 11, 3) := by decide +kernel
theorem dX6_dropsOf_31 : decode cX6_dropsOf 31 = .ok (.iload_n 3, 1) := by decide +kernel
theorem dX6_dropsOf_32 : decode cX6_dropsOf 32 = .ok (.iload_n 2, 1) := by decide +kernel
theorem dX6_dropsOf_33 : decode cX6_dropsOf 33 = .ok (.irem, 1) := by decide +kernel
theorem dX6_dropsOf_34 : decode cX6_dropsOf 34 = .ok (.iload_n 2, 1) := by decide +kernel
theorem dX6_dropsOf_35 : decode cX6_dropsOf 35 = .ok (.iadd, 1) := by decide +kernel
theorem dX6_dropsOf_36 : decode cX6_dropsOf 36 = .ok (.goto 6, 3) := by decide +kernel
theorem dX6_dropsOf_39 : decode cX6_dropsOf 39 = .ok (.iload_n 3, 1) := by decide +kernel
theorem dX6_dropsOf_40 : decode cX6_dropsOf 40 = .ok (.iload_n 2, 1) := by decide +kernel
theorem dX6_dropsOf_41 : decode cX6_dropsOf 41 = .ok (.irem, 1) := by decide +kernel
theorem dX6_dropsOf_42 : decode cX6_dropsOf 42 = .ok (.istore 4, 2) := by decide +kernel
theorem dX6_dropsOf_44 : decode cX6_dropsOf 44 = .ok (.iload_n 2, 1) := by decide +kernel
theorem dX6_dropsOf_45 : decode cX6_dropsOf 45 = .ok (.iconst 1, 1) := by decide +kernel
theorem dX6_dropsOf_46 : decode cX6_dropsOf 46 = .ok (.isub, 1) := by decide +kernel
theorem dX6_dropsOf_47 : decode cX6_dropsOf 47 = .ok (.iload 4, 2) := by decide +kernel
theorem dX6_dropsOf_49 : decode cX6_dropsOf 49 = .ok (.isub, 1) := by decide +kernel
theorem dX6_dropsOf_50 : decode cX6_dropsOf 50 = .ok (.istore 5, 2) := by decide +kernel
theorem dX6_dropsOf_52 : decode cX6_dropsOf 52 = .ok (.iload 4, 2) := by decide +kernel
theorem dX6_dropsOf_54 : decode cX6_dropsOf 54 = .ok (.istore 6, 2) := by decide +kernel
theorem dX6_dropsOf_56 : decode cX6_dropsOf 56 = .ok (.aload_n 0, 1) := by decide +kernel
theorem dX6_dropsOf_57 : decode cX6_dropsOf 57 = .ok (.getfield 7, 3) := by decide +kernel
theorem dX6_dropsOf_60 : decode cX6_dropsOf 60 = .ok (.iload_n 1, 1) := by decide +kernel
theorem dX6_dropsOf_61 : decode cX6_dropsOf 61 = .ok (.iaload, 1) := by decide +kernel
theorem dX6_dropsOf_62 : decode cX6_dropsOf 62 = .ok (.iconst 2, 1) := by decide +kernel
theorem dX6_dropsOf_63 : decode cX6_dropsOf 63 = .ok (.if_icmp .ne 7, 3) := by decide +kernel
theorem dX6_dropsOf_66 : decode cX6_dropsOf 66 = .ok (.iload 5, 2) := by decide +kernel
theorem dX6_dropsOf_68 : decode cX6_dropsOf 68 = .ok (.istore 6, 2) := by decide +kernel
theorem dX6_dropsOf_70 : decode cX6_dropsOf 70 = .ok (.aload_n 0, 1) := by decide +kernel
theorem dX6_dropsOf_71 : decode cX6_dropsOf 71 = .ok (.getfield 7, 3) := by decide +kernel
theorem dX6_dropsOf_74 : decode cX6_dropsOf 74 = .ok (.iload_n 1, 1) := by decide +kernel
theorem dX6_dropsOf_75 : decode cX6_dropsOf 75 = .ok (.iaload, 1) := by decide +kernel
theorem dX6_dropsOf_76 : decode cX6_dropsOf 76 = .ok (.iconst 4, 1) := by decide +kernel
theorem dX6_dropsOf_77 : decode cX6_dropsOf 77 = .ok (.if_icmp .ne 31, 3) := by decide +kernel
theorem dX6_dropsOf_80 : decode cX6_dropsOf 80 = .ok (.iload 5, 2) := by decide +kernel
theorem dX6_dropsOf_82 : decode cX6_dropsOf 82 = .ok (.aload_n 0, 1) := by decide +kernel
theorem dX6_dropsOf_83 : decode cX6_dropsOf 83 = .ok (.getfield 13, 3) := by decide +kernel
theorem dX6_dropsOf_86 : decode cX6_dropsOf 86 = .ok (.iload_n 1, 1) := by decide +kernel
theorem dX6_dropsOf_87 : decode cX6_dropsOf 87 = .ok (.iaload, 1) := by decide +kernel
theorem dX6_dropsOf_88 : decode cX6_dropsOf 88 = .ok (.iload_n 2, 1) := by decide +kernel
theorem dX6_dropsOf_89 : decode cX6_dropsOf 89 = .ok (.irem, 1) := by decide +kernel
theorem dX6_dropsOf_90 : decode cX6_dropsOf 90 = .ok (.if_icmp .le 8, 3) := by decide +kernel
theorem dX6_dropsOf_93 : decode cX6_dropsOf 93 = .ok (.iload 5, 2) := by decide +kernel
theorem dX6_dropsOf_95 : decode cX6_dropsOf 95 = .ok (.goto 11, 3) := by decide +kernel
theorem dX6_dropsOf_98 : decode cX6_dropsOf 98 = .ok (.aload_n 0, 1) := by decide +kernel
theorem dX6_dropsOf_99 : decode cX6_dropsOf 99 = .ok (.getfield 13, 3) := by decide +kernel
theorem dX6_dropsOf_102 : decode cX6_dropsOf 102 = .ok (.iload_n 1, 1) := by decide +kernel
theorem dX6_dropsOf_103 : decode cX6_dropsOf 103 = .ok (.iaload, 1) := by decide +kernel
theorem dX6_dropsOf_104 : decode cX6_dropsOf 104 = .ok (.iload_n 2, 1) := by decide +kernel
theorem dX6_dropsOf_105 : decode cX6_dropsOf 105 = .ok (.irem, 1) := by decide +kernel
theorem dX6_dropsOf_106 : decode cX6_dropsOf 106 = .ok (.istore 6, 2) := by decide +kernel
theorem dX6_dropsOf_108 : decode cX6_dropsOf 108 = .ok (.aload_n 0, 1) := by decide +kernel
theorem dX6_dropsOf_109 : decode cX6_dropsOf 109 = .ok (.getfield 16, 3) := by decide +kernel
theorem dX6_dropsOf_112 : decode cX6_dropsOf 112 = .ok (.iconst 3, 1) := by decide +kernel
theorem dX6_dropsOf_113 : decode cX6_dropsOf 113 = .ok (.iload_n 1, 1) := by decide +kernel
theorem dX6_dropsOf_114 : decode cX6_dropsOf 114 = .ok (.imul, 1) := by decide +kernel
theorem dX6_dropsOf_115 : decode cX6_dropsOf 115 = .ok (.iaload, 1) := by decide +kernel
theorem dX6_dropsOf_116 : decode cX6_dropsOf 116 = .ok (.iload 6, 2) := by decide +kernel
theorem dX6_dropsOf_118 : decode cX6_dropsOf 118 = .ok (.invokestatic 189, 3) := by decide +kernel
theorem dX6_dropsOf_121 : decode cX6_dropsOf 121 = .ok (.ireturn, 1) := by decide +kernel
set_option maxRecDepth 20000 in
theorem ggX6_doesStoop_X6_looksOf : GoodIn wsX6_doesStoop wsX6_looksOf := goodIn_r _ [6, 7, 8, 9, 10, 11, 5, 12, 13, 14, 15, 16, 17, 18, 19, 20, 21, 22, 23, 24, 25, 26, 27, 28, 29, 30, 31, 32, 33, 34, 35, 36, 37, 38, 39, 40, 41, 42, 43, 44, 45, 46, 47, 48, 49, 50, 51, 52, 53, 54, 55, 56, 57, 58, 59, 60, 61, 62, 63, 64, 65, 66, 67, 68, 69, 70, 71, 72, 73, 74, 75, 76, 77, 78, 79, 80, 81, 82, 83, 84] rfl (by decide +kernel)
set_option maxRecDepth 20000 in
theorem gX6_doesStoop_X6_looksOf : GoodIn wsX6_doesStoop (wsV RX6 192 RX6 yX6_looksOf wsX6_looksOf) := goodIn_app (goodIn_of _ (by decide +kernel)) ggX6_doesStoop_X6_looksOf
theorem dX6_doesStoop_0 : decode cX6_doesStoop 0 = .ok (.aload_n 0, 1) := by decide +kernel
theorem dX6_doesStoop_1 : decode cX6_doesStoop 1 = .ok (.getfield 25, 3) := by decide +kernel
theorem dX6_doesStoop_4 : decode cX6_doesStoop 4 = .ok (.iload_n 1, 1) := by decide +kernel
theorem dX6_doesStoop_5 : decode cX6_doesStoop 5 = .ok (.iaload, 1) := by decide +kernel
theorem dX6_doesStoop_6 : decode cX6_doesStoop 6 = .ok (.aload_n 0, 1) := by decide +kernel
theorem dX6_doesStoop_7 : decode cX6_doesStoop 7 = .ok (.iload_n 2, 1) := by decide +kernel
theorem dX6_doesStoop_8 : decode cX6_doesStoop 8 = .ok (.iload_n 1, 1) := by decide +kernel
theorem dX6_doesStoop_9 : decode cX6_doesStoop 9 = .ok (.invokevirtual 192, 3) := by decide +kernel
theorem dX6_doesStoop_12 : decode cX6_doesStoop 12 = .ok (.iadd, 1) := by decide +kernel
theorem dX6_doesStoop_13 : decode cX6_doesStoop 13 = .ok (.bipush 100, 2) := by decide +kernel
theorem dX6_doesStoop_15 : decode cX6_doesStoop 15 = .ok (.if_icmp .lt 7, 3) := by decide +kernel
theorem dX6_doesStoop_18 : decode cX6_doesStoop 18 = .ok (.iconst 1, 1) := by decide +kernel
theorem dX6_doesStoop_19 : decode cX6_doesStoop 19 = .ok (.goto 4, 3) := by decide +kernel
theorem dX6_doesStoop_22 : decode cX6_doesStoop 22 = .ok (.iconst 0, 1) := by decide +kernel
theorem dX6_doesStoop_23 : decode cX6_doesStoop 23 = .ok (.ireturn, 1) := by decide +kernel
theorem dX6_ownLinens_0 : decode cX6_ownLinens 0 = .ok (.iconst 0, 1) := by decide +kernel
theorem dX6_ownLinens_1 : decode cX6_ownLinens 1 = .ok (.istore_n 2, 1) := by decide +kernel
theorem dX6_ownLinens_2 : decode cX6_ownLinens 2 = .ok (.iconst 0, 1) := by decide +kernel
theorem dX6_ownLinens_3 : decode cX6_ownLinens 3 = .ok (.istore_n 3, 1) := by decide +kernel
theorem dX6_ownLinens_4 : decode cX6_ownLinens 4 = .ok (.iload_n 3, 1) := by decide +kernel
theorem dX6_ownLinens_5 : decode cX6_ownLinens 5 = .ok (.bipush 8, 2) := by decide +kernel
theorem dX6_ownLinens_7 : decode cX6_ownLinens 7 = .ok (.if_icmp .ge 31, 3) := by decide +kernel
theorem dX6_ownLinens_10 : decode cX6_ownLinens 10 = .ok (.iload_n 2, 1) := by decide +kernel
theorem dX6_ownLinens_11 : decode cX6_ownLinens 11 = .ok (.aload_n 0, 1) := by decide +kernel
theorem dX6_ownLinens_12 : decode cX6_ownLinens 12 = .ok (.getfield 19, 3) := by decide +kernel
theorem dX6_ownLinens_15 : decode cX6_ownLinens 15 = .ok (.iconst 3, 1) := by decide +kernel
theorem dX6_ownLinens_16 : decode cX6_ownLinens 16 = .ok (.iload_n 3, 1) := by decide +kernel
theorem dX6_ownLinens_17 : decode cX6_ownLinens 17 = .ok (.imul, 1) := by decide +kernel
theorem dX6_ownLinens_18 : decode cX6_ownLinens 18 = .ok (.iaload, 1) := by decide +kernel
theorem dX6_ownLinens_19 : decode cX6_ownLinens 19 = .ok (.iload_n 1, 1) := by decide +kernel
theorem dX6_ownLinens_20 : decode cX6_ownLinens 20 = .ok (.if_icmp .ne 9, 3) := by decide +kernel
theorem dX6_ownLinens_23 : decode cX6_ownLinens 23 = .ok (.iconst 1, 1) := by decide +kernel
theorem dX6_ownLinens_24 : decode cX6_ownLinens 24 = .ok (.iload_n 3, 1) := by decide +kernel
theorem dX6_ownLinens_25 : decode cX6_ownLinens 25 = .ok (.ishl, 1) := by decide +kernel
theorem dX6_ownLinens_26 : decode cX6_ownLinens 26 = .ok (.goto 4, 3) := by decide +kernel
theorem dX6_ownLinens_29 : decode cX6_ownLinens 29 = .ok (.iconst 0, 1) := by decide +kernel
theorem dX6_ownLinens_30 : decode cX6_ownLinens 30 = .ok (.ior, 1) := by decide +kernel
theorem dX6_ownLinens_31 : decode cX6_ownLinens 31 = .ok (.istore_n 2, 1) := by decide +kernel
theorem dX6_ownLinens_32 : decode cX6_ownLinens 32 = .ok (.iinc 3 1, 3) := by decide +kernel

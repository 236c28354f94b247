set_option maxRecDepth 20000 in
theorem ggX5_init_X4_init : GoodIn wsX5_init wsX4_init := goodIn_r _ [26, 27, 2, 3, 16, 28, 29, 30, 75, 76, 77, 78, 79, 80, 81, 82, 83] (by decide +kernel) (by decide +kernel)
set_option maxRecDepth 20000 in
theorem gX5_init_X4_init_n17 : GoodIn wsX5_init (wsX4_init) := ggX5_init_X4_init
set_option maxRecDepth 20000 in
theorem ggX5_init_X2_init : GoodIn wsX5_init wsX2_init := goodIn_r _ [33, 34, 2, 3, 35, 36, 37, 38, 84, 85, 86, 87] (by decide +kernel) (by decide +kernel)
set_option maxRecDepth 20000 in
theorem gX5_init_X2_init : GoodIn wsX5_init (wsX2_init) := ggX5_init_X2_init
set_option maxRecDepth 20000 in
theorem ggX5_init_X0_init : GoodIn wsX5_init wsX0_init := goodIn_r _ [41, 42, 2, 3, 16, 43, 44, 45, 46, 47, 48, 49, 50, 51, 52, 53, 54, 55, 56, 57, 58, 88, 89, 90, 91, 92, 93, 94, 95, 96, 97, 98, 99, 100, 101, 102] (by decide +kernel) (by decide +kernel)
set_option maxRecDepth 20000 in
theorem gX5_init_X0_init : GoodIn wsX5_init (wsX0_init) := ggX5_init_X0_init
set_option maxRecDepth 20000 in
theorem ggX5_init_X3_init : GoodIn wsX5_init wsX3_init := goodIn_r _ [60, 61, 2, 3, 16, 62, 63, 103, 104, 105] (by decide +kernel) (by decide +kernel)
set_option maxRecDepth 20000 in
theorem gX5_init_X3_init_n54 : GoodIn wsX5_init (wsX3_init) := ggX5_init_X3_init
theorem dX5_init_0 : decode cX5_init 0 = .ok (.aload_n 0, 1) := by decide +kernel
theorem dX5_init_1 : decode cX5_init 1 = .ok (.invokespecial 1, 3) := by decide +kernel
theorem dX5_init_4 : decode cX5_init 4 = .ok (.aload_n 0, 1) := by decide +kernel
theorem dX5_init_5 : decode cX5_init 5 = .ok (.bipush 6, 2) := by decide +kernel
theorem dX5_init_7 : decode cX5_init 7 = .ok (.anewarray 9, 3) := by decide +kernel
theorem dX5_init_10 : decode cX5_init 10 = .ok (.putfield 11, 3) := by decide +kernel
theorem dX5_init_13 : decode cX5_init 13 = .ok (.aload_n 0, 1) := by decide +kernel
theorem dX5_init_14 : decode cX5_init 14 = .ok (.new 15, 3) := by decide +kernel
theorem dX5_init_17 : decode cX5_init 17 = .ok (.dup, 1) := by decide +kernel
theorem dX5_init_18 : decode cX5_init 18 = .ok (.invokespecial 17, 3) := by decide +kernel
theorem dX5_init_21 : decode cX5_init 21 = .ok (.putfield 18, 3) := by decide +kernel
theorem dX5_init_24 : decode cX5_init 24 = .ok (.aload_n 0, 1) := by decide +kernel
theorem dX5_init_25 : decode cX5_init 25 = .ok (.iconst 4, 1) := by decide +kernel
theorem dX5_init_26 : decode cX5_init 26 = .ok (.anewarray 22, 3) := by decide +kernel
theorem dX5_init_29 : decode cX5_init 29 = .ok (.putfield 24, 3) := by decide +kernel
theorem dX5_init_32 : decode cX5_init 32 = .ok (.aload_n 0, 1) := by decide +kernel
theorem dX5_init_33 : decode cX5_init 33 = .ok (.iconst 4, 1) := by decide +kernel
theorem dX5_init_34 : decode cX5_init 34 = .ok (.anewarray 28, 3) := by decide +kernel
theorem dX5_init_37 : decode cX5_init 37 = .ok (.putfield 30, 3) := by decide +kernel
theorem dX5_init_40 : decode cX5_init 40 = .ok (.new 9, 3) := by decide +kernel
theorem dX5_init_43 : decode cX5_init 43 = .ok (.dup, 1) := by decide +kernel
theorem dX5_init_44 : decode cX5_init 44 = .ok (.iconst 0, 1) := by decide +kernel
theorem dX5_init_45 : decode cX5_init 45 = .ok (.iconst 3, 1) := by decide +kernel
theorem dX5_init_46 : decode cX5_init 46 = .ok (.newarray .int, 2) := by decide +kernel
theorem dX5_init_48 : decode cX5_init 48 = .ok (.dup, 1) := by decide +kernel
theorem dX5_init_49 : decode cX5_init 49 = .ok (.iconst 0, 1) := by decide +kernel
theorem dX5_init_50 : decode cX5_init 50 = .ok (.iconst (-1), 1) := by decide +kernel
theorem dX5_init_51 : decode cX5_init 51 = .ok (.iastore, 1) := by decide +kernel
theorem dX5_init_52 : decode cX5_init 52 = .ok (.dup, 1) := by decide +kernel
theorem dX5_init_53 : decode cX5_init 53 = .ok (.iconst 1, 1) := by decide +kernel
theorem dX5_init_54 : decode cX5_init 54 = .ok (.bipush 6, 2) := by decide +kernel
theorem dX5_init_56 : decode cX5_init 56 = .ok (.iastore, 1) := by decide +kernel
theorem dX5_init_57 : decode cX5_init 57 = .ok (.dup, 1) := by decide +kernel
theorem dX5_init_58 : decode cX5_init 58 = .ok (.iconst 2, 1) := by decide +kernel
theorem dX5_init_59 : decode cX5_init 59 = .ok (.bipush (-3), 2) := by decide +kernel
theorem dX5_init_61 : decode cX5_init 61 = .ok (.iastore, 1) := by decide +kernel
theorem dX5_init_62 : decode cX5_init 62 = .ok (.iconst 1, 1) := by decide +kernel
theorem dX5_init_63 : decode cX5_init 63 = .ok (.iconst 2, 1) := by decide +kernel
theorem dX5_init_64 : decode cX5_init 64 = .ok (.invokespecial 34, 3) := by decide +kernel
theorem dX5_init_67 : decode cX5_init 67 = .ok (.astore_n 1, 1) := by decide +kernel
theorem dX5_init_68 : decode cX5_init 68 = .ok (.aload_n 0, 1) := by decide +kernel
theorem dX5_init_69 : decode cX5_init 69 = .ok (.getfield 11, 3) := by decide +kernel
theorem dX5_init_72 : decode cX5_init 72 = .ok (.iconst 0, 1) := by decide +kernel
theorem dX5_init_73 : decode cX5_init 73 = .ok (.aload_n 1, 1) := by decide +kernel
theorem dX5_init_74 : decode cX5_init 74 = .ok (.aastore, 1) := by decide +kernel
theorem dX5_init_75 : decode cX5_init 75 = .ok (.aload_n 0, 1) := by decide +kernel
theorem dX5_init_76 : decode cX5_init 76 = .ok (.iconst 1, 1) := by decide +kernel
theorem dX5_init_77 : decode cX5_init 77 = .ok (.putfield 37, 3) := by decide +kernel
theorem dX5_init_80 : decode cX5_init 80 = .ok (.sipush 160, 3) := by decide +kernel
theorem dX5_init_83 : decode cX5_init 83 = .ok (.newarray .int, 2) := by decide +kernel
theorem dX5_init_85 : decode cX5_init 85 = .ok (.astore_n 2, 1) := by decide +kernel
theorem dX5_init_86 : decode cX5_init 86 = .ok (.aload_n 0, 1) := by decide +kernel
theorem dX5_init_87 : decode cX5_init 87 = .ok (.new 28, 3) := by decide +kernel
theorem dX5_init_90 : decode cX5_init 90 = .ok (.dup, 1) := by decide +kernel
theorem dX5_init_91 : decode cX5_init 91 = .ok (.aload_n 1, 1) := by decide +kernel
theorem dX5_init_92 : decode cX5_init 92 = .ok (.aload_n 2, 1) := by decide +kernel
theorem dX5_init_93 : decode cX5_init 93 = .ok (.invokespecial 41, 3) := by decide +kernel
theorem dX5_init_96 : decode cX5_init 96 = .ok (.putfield 44, 3) := by decide +kernel
theorem dX5_init_99 : decode cX5_init 99 = .ok (.aload_n 0, 1) := by decide +kernel
theorem dX5_init_100 : decode cX5_init 100 = .ok (.new 28, 3) := by decide +kernel
theorem dX5_init_103 : decode cX5_init 103 = .ok (.dup, 1) := by decide +kernel
theorem dX5_init_104 : decode cX5_init 104 = .ok (.aload_n 1, 1) := by decide +kernel
theorem dX5_init_105 : decode cX5_init 105 = .ok (.aload_n 2, 1) := by decide +kernel
theorem dX5_init_106 : decode cX5_init 106 = .ok (.invokespecial 41, 3) := by decide +kernel
theorem dX5_init_109 : decode cX5_init 109 = .ok (.putfield 48, 3) := by decide +kernel
theorem dX5_init_112 : decode cX5_init 112 = .ok (.aload_n 0, 1) := by decide +kernel
theorem dX5_init_113 : decode cX5_init 113 = .ok (.new 28, 3) := by decide +kernel
theorem dX5_init_116 : decode cX5_init 116 = .ok (.dup, 1) := by decide +kernel
theorem dX5_init_117 : decode cX5_init 117 = .ok (.aload_n 1, 1) := by decide +kernel
theorem dX5_init_118 : decode cX5_init 118 = .ok (.aload_n 2, 1) := by decide +kernel
theorem dX5_init_119 : decode cX5_init 119 = .ok (.invokespecial 41, 3) := by decide +kernel
theorem dX5_init_122 : decode cX5_init 122 = .ok (.putfield 51, 3) := by decide +kernel
theorem dX5_init_125 : decode cX5_init 125 = .ok (.aload_n 0, 1) := by decide +kernel
theorem dX5_init_126 : decode cX5_init 126 = .ok (.getfield 30, 3) := by decide +kernel
theorem dX5_init_129 : decode cX5_init 129 = .ok (.iconst 0, 1) := by decide +kernel
theorem dX5_init_130 : decode cX5_init 130 = .ok (.aload_n 0, 1) := by decide +kernel
theorem dX5_init_131 : decode cX5_init 131 = .ok (.getfield 44, 3) := by decide +kernel
theorem dX5_init_134 : decode cX5_init 134 = .ok (.aastore, 1) := by decide +kernel
theorem dX5_init_135 : decode cX5_init 135 = .ok (.iconst 1, 1) := by decide +kernel
theorem dX5_init_136 : decode cX5_init 136 = .ok (.istore_n 3, 1) := by decide +kernel
theorem dX5_init_137 : decode cX5_init 137 = .ok (.iload_n 3, 1) := by decide +kernel
theorem dX5_init_138 : decode cX5_init 138 = .ok (.aload_n 0, 1) := by decide +kernel
theorem dX5_init_139 : decode cX5_init 139 = .ok (.getfield 30, 3) := by decide +kernel
theorem dX5_init_142 : decode cX5_init 142 = .ok (.arraylength, 1) := by decide +kernel
theorem dX5_init_143 : decode cX5_init 143 = .ok (.if_icmp .ge 24, 3) := by decide +kernel
theorem dX5_init_146 : decode cX5_init 146 = .ok (.aload_n 0, 1) := by decide +kernel
theorem dX5_init_147 : decode cX5_init 147 = .ok (.getfield 30, 3) := by decide +kernel
theorem dX5_init_150 : decode cX5_init 150 = .ok (.iload_n 3, 1) := by decide +kernel
theorem dX5_init_151 : decode cX5_init 151 = .ok (.new 28, 3) := by decide +kernel
theorem dX5_init_154 : decode cX5_init 154 = .ok (.dup, 1) := by decide +kernel
theorem dX5_init_155 : decode cX5_init 155 = .ok (.aload_n 1, 1) := by decide +kernel
theorem dX5_init_156 : decode cX5_init 156 = .ok (.aload_n 2, 1) := by decide +kernel
theorem dX5_init_157 : decode cX5_init 157 = .ok (.invokespecial 41, 3) := by decide +kernel
theorem dX5_init_160 : decode cX5_init 160 = .ok (.aastore, 1) := by decide +kernel
theorem dX5_init_161 : decode cX5_init 161 = .ok (.iinc 3 1, 3) := by decide +kernel
theorem dX5_init_164 : decode cX5_init 164 = .ok (.goto (-27), 3) := by decide +kernel
theorem dX5_init_167 : decode cX5_init 167 = .ok (.iconst 0, 1) := by decide +kernel
theorem dX5_init_168 : decode cX5_init 168 = .ok (.istore_n 3, 1) := by decide +kernel
theorem dX5_init_169 : decode cX5_init 169 = .ok (.iload_n 3, 1) := by decide +kernel
theorem dX5_init_170 : decode cX5_init 170 = .ok (.iconst 4, 1) := by decide +kernel
theorem dX5_init_171 : decode cX5_init 171 = .ok (.if_icmp .ge 22, 3) := by decide +kernel
theorem dX5_init_174 : decode cX5_init 174 = .ok (.aload_n 0, 1) := by decide +kernel
theorem dX5_init_175 : decode cX5_init 175 = .ok (.getfield 24, 3) := by decide +kernel
theorem dX5_init_178 : decode cX5_init 178 = .ok (.iload_n 3, 1) := by decide +kernel
theorem dX5_init_179 : decode cX5_init 179 = .ok (.new 22, 3) := by decide +kernel
theorem dX5_init_182 : decode cX5_init 182 = .ok (.dup, 1) := by decide +kernel
theorem dX5_init_183 : decode cX5_init 183 = .ok (.invokespecial 54, 3) := by decide +kernel
theorem dX5_init_186 : decode cX5_init 186 = .ok (.aastore, 1) := by decide +kernel
theorem dX5_init_187 : decode cX5_init 187 = .ok (.iinc 3 1, 3) := by decide +kernel
theorem dX5_init_190 : decode cX5_init 190 = .ok (.goto (-21), 3) := by decide +kernel
theorem dX5_init_193 : decode cX5_init 193 = .ok (.return_, 1) := by decide +kernel
set_option maxRecDepth 20000 in
theorem ggX5_count_X0_lying : GoodIn wsX5_count wsX0_lying := goodIn_r _ [8, 9, 21, 22, 23, 24, 25, 26, 27, 28, 29, 30, 31, 32, 33, 34, 35] (by decide +kernel) (by decide +kernel)
set_option maxRecDepth 20000 in
theorem gX5_count_X0_lying : GoodIn wsX5_count (wsV RX5 61 RX0 yX0_lying wsX0_lying) := goodIn_app (goodIn_of _ (by decide +kernel)) ggX5_count_X0_lying
theorem dX5_count_0 : decode cX5_count 0 = .ok (.iload_n 1, 1) := by decide +kernel
theorem dX5_count_1 : decode cX5_count 1 = .ok (.tableswitch 87 0 5 #[39, 47, 55, 63, 68, 79], 39) := by decide +kernel
theorem dX5_count_40 : decode cX5_count 40 = .ok (.aload_n 0, 1) := by decide +kernel
theorem dX5_count_41 : decode cX5_count 41 = .ok (.getfield 44, 3) := by decide +kernel
theorem dX5_count_44 : decode cX5_count 44 = .ok (.getfield 55, 3) := by decide +kernel
theorem dX5_count_47 : decode cX5_count 47 = .ok (.ireturn, 1) := by decide +kernel
theorem dX5_count_48 : decode cX5_count 48 = .ok (.aload_n 0, 1) := by decide +kernel
theorem dX5_count_49 : decode cX5_count 49 = .ok (.getfield 44, 3) := by decide +kernel
theorem dX5_count_52 : decode cX5_count 52 = .ok (.getfield 58, 3) := by decide +kernel
theorem dX5_count_55 : decode cX5_count 55 = .ok (.ireturn, 1) := by decide +kernel
theorem dX5_count_56 : decode cX5_count 56 = .ok (.aload_n 0, 1) := by decide +kernel
theorem dX5_count_57 : decode cX5_count 57 = .ok (.getfield 44, 3) := by decide +kernel
theorem dX5_count_60 : decode cX5_count 60 = .ok (.invokevirtual 61, 3) := by decide +kernel
theorem dX5_count_63 : decode cX5_count 63 = .ok (.ireturn, 1) := by decide +kernel
theorem dX5_count_64 : decode cX5_count 64 = .ok (.aload_n 0, 1) := by decide +kernel
theorem dX5_count_65 : decode cX5_count 65 = .ok (.getfield 37, 3) := by decide +kernel
theorem dX5_count_68 : decode cX5_count 68 = .ok (.ireturn, 1) := by decide +kernel
theorem dX5_count_69 : decode cX5_count 69 = .ok (.aload_n 0, 1) := by decide +kernel
theorem dX5_count_70 : decode cX5_count 70 = .ok (.getfield 44, 3) := by decide +kernel
theorem dX5_count_73 : decode cX5_count 73 = .ok (.getfield 65, 3) := by decide +kernel
theorem dX5_count_76 : decode cX5_count 76 = .ok (.getfield 69, 3) := by decide +kernel
theorem dX5_count_79 : decode cX5_count 79 = .ok (.ireturn, 1) := by decide +kernel
theorem dX5_count_80 : decode cX5_count 80 = .ok (.aload_n 0, 1) := by decide +kernel
theorem dX5_count_81 : decode cX5_count 81 = .ok (.getfield 18, 3) := by decide +kernel
theorem dX5_count_84 : decode cX5_count 84 = .ok (.getfield 72, 3) := by decide +kernel
theorem dX5_count_87 : decode cX5_count 87 = .ok (.ireturn, 1) := by decide +kernel
theorem dX5_count_88 : decode cX5_count 88 = .ok (.bipush (-2), 2) := by decide +kernel
theorem dX5_count_90 : decode cX5_count 90 = .ok (.ireturn, 1) := by decide +kernel
set_option maxRecDepth 20000 in
theorem ggX5_court_X5_isOfCourt : GoodIn wsX5_court wsX5_isOfCourt := goodIn_r _ [5, 6, 7, 4, 8] (by decide +kernel) (by decide +kernel)
set_option maxRecDepth 20000 in
theorem gX5_court_X5_isOfCourt : GoodIn wsX5_court (va_wsS RX5 75 yX5_isOfCourt wsX5_isOfCourt) := goodIn_app (goodIn_of _ (by decide +kernel)) ggX5_court_X5_isOfCourt
set_option maxRecDepth 20000 in
theorem ggX5_court_X5_mostOfCourt : GoodIn wsX5_court wsX5_mostOfCourt := goodIn_r _ [11] (by decide +kernel) (by decide +kernel)
set_option maxRecDepth 20000 in
theorem gX5_court_X5_mostOfCourt : GoodIn wsX5_court (va_wsS RX5 79 yX5_mostOfCourt wsX5_mostOfCourt) := goodIn_app (goodIn_of _ (by decide +kernel)) ggX5_court_X5_mostOfCourt
set_option maxRecDepth 20000 in
theorem ggX5_court_X5_replaced : GoodIn wsX5_court wsX5_replaced := goodIn_r _ [14] (by decide +kernel) (by decide +kernel)
set_option maxRecDepth 20000 in
theorem gX5_court_X5_replaced : GoodIn wsX5_court (va_wsS RX5 90 yX5_replaced wsX5_replaced) := goodIn_app (goodIn_of _ (by decide +kernel)) ggX5_court_X5_replaced
theorem dX5_court_0 : decode cX5_court 0 = .ok (.iload_n 1, 1) := by decide +kernel
theorem dX5_court_1 : decode cX5_court 1 = .ok (.iload_n 2, 1) := by decide +kernel
theorem dX5_court_2 : decode cX5_court 2 = .ok (.invokestatic 75, 3) := by decide +kernel
theorem dX5_court_5 : decode cX5_court 5 = .ok (.ifCond .ne 7, 3) := by decide +kernel
theorem dX5_court_8 : decode cX5_court 8 = .ok (.sipush (-5000), 3) := by decide +kernel
theorem dX5_court_11 : decode cX5_court 11 = .ok (.ireturn, 1) := by decide +kernel
theorem dX5_court_12 : decode cX5_court 12 = .ok (.iload_n 3, 1) := by decide +kernel
theorem dX5_court_13 : decode cX5_court 13 = .ok (.iload_n 1, 1) := by decide +kernel
theorem dX5_court_14 : decode cX5_court 14 = .ok (.ifCond .ne 8, 3) := by decide +kernel
theorem dX5_court_17 : decode cX5_court 17 = .ok (.bipush (-99), 2) := by decide +kernel
theorem dX5_court_19 : decode cX5_court 19 = .ok (.goto 4, 3) := by decide +kernel
theorem dX5_court_22 : decode cX5_court 22 = .ok (.iconst 0, 1) := by decide +kernel
theorem dX5_court_23 : decode cX5_court 23 = .ok (.if_icmp .lt 11, 3) := by decide +kernel
theorem dX5_court_26 : decode cX5_court 26 = .ok (.iload_n 3, 1) := by decide +kernel
theorem dX5_court_27 : decode cX5_court 27 = .ok (.iload_n 1, 1) := by decide +kernel
theorem dX5_court_28 : decode cX5_court 28 = .ok (.invokestatic 79, 3) := by decide +kernel
theorem dX5_court_31 : decode cX5_court 31 = .ok (.if_icmp .le 7, 3) := by decide +kernel
theorem dX5_court_34 : decode cX5_court 34 = .ok (.sipush (-7000), 3) := by decide +kernel
theorem dX5_court_37 : decode cX5_court 37 = .ok (.ireturn, 1) := by decide +kernel
theorem dX5_court_38 : decode cX5_court 38 = .ok (.iload_n 1, 1) := by decide +kernel
theorem dX5_court_39 : decode cX5_court 39 = .ok (.iconst 2, 1) := by decide +kernel
theorem dX5_court_40 : decode cX5_court 40 = .ok (.if_icmp .ge 30, 3) := by decide +kernel
theorem dX5_court_43 : decode cX5_court 43 = .ok (.iload_n 1, 1) := by decide +kernel
theorem dX5_court_44 : decode cX5_court 44 = .ok (.ifCond .ne 13, 3) := by decide +kernel
theorem dX5_court_47 : decode cX5_court 47 = .ok (.aload_n 0, 1) := by decide +kernel
theorem dX5_court_48 : decode cX5_court 48 = .ok (.getfield 44, 3) := by decide +kernel
theorem dX5_court_51 : decode cX5_court 51 = .ok (.getfield 83, 3) := by decide +kernel
theorem dX5_court_54 : decode cX5_court 54 = .ok (.goto 10, 3) := by decide +kernel
theorem dX5_court_57 : decode cX5_court 57 = .ok (.aload_n 0, 1) := by decide +kernel
theorem dX5_court_58 : decode cX5_court 58 = .ok (.getfield 44, 3) := by decide +kernel
theorem dX5_court_61 : decode cX5_court 61 = .ok (.getfield 87, 3) := by decide +kernel
theorem dX5_court_64 : decode cX5_court 64 = .ok (.iload_n 2, 1) := by decide +kernel
theorem dX5_court_65 : decode cX5_court 65 = .ok (.iload_n 3, 1) := by decide +kernel
theorem dX5_court_66 : decode cX5_court 66 = .ok (.invokestatic 90, 3) := by decide +kernel
theorem dX5_court_69 : decode cX5_court 69 = .ok (.ireturn, 1) := by decide +kernel
theorem dX5_court_70 : decode cX5_court 70 = .ok (.iload_n 1, 1) := by decide +kernel
theorem dX5_court_71 : decode cX5_court 71 = .ok (.iconst 2, 1) := by decide +kernel
theorem dX5_court_72 : decode cX5_court 72 = .ok (.if_icmp .ne 13, 3) := by decide +kernel
theorem dX5_court_75 : decode cX5_court 75 = .ok (.aload_n 0, 1) := by decide +kernel
theorem dX5_court_76 : decode cX5_court 76 = .ok (.getfield 44, 3) := by decide +kernel
theorem dX5_court_79 : decode cX5_court 79 = .ok (.getfield 58, 3) := by decide +kernel
theorem dX5_court_82 : decode cX5_court 82 = .ok (.goto 10, 3) := by decide +kernel
theorem dX5_court_85 : decode cX5_court 85 = .ok (.aload_n 0, 1) := by decide +kernel
theorem dX5_court_86 : decode cX5_court 86 = .ok (.getfield 44, 3) := by decide +kernel
theorem dX5_court_89 : decode cX5_court 89 = .ok (.getfield 94, 3) := by decide +kernel
theorem dX5_court_92 : decode cX5_court 92 = .ok (.istore 4, 2) := by decide +kernel
theorem dX5_court_94 : decode cX5_court 94 = .ok (.iload_n 1, 1) := by decide +kernel
theorem dX5_court_95 : decode cX5_court 95 = .ok (.iconst 2, 1) := by decide +kernel
theorem dX5_court_96 : decode cX5_court 96 = .ok (.if_icmp .ne 14, 3) := by decide +kernel
theorem dX5_court_99 : decode cX5_court 99 = .ok (.aload_n 0, 1) := by decide +kernel
theorem dX5_court_100 : decode cX5_court 100 = .ok (.getfield 44, 3) := by decide +kernel
theorem dX5_court_103 : decode cX5_court 103 = .ok (.iload_n 3, 1) := by decide +kernel
theorem dX5_court_104 : decode cX5_court 104 = .ok (.putfield 58, 3) := by decide +kernel
theorem dX5_court_107 : decode cX5_court 107 = .ok (.goto 11, 3) := by decide +kernel
theorem dX5_court_110 : decode cX5_court 110 = .ok (.aload_n 0, 1) := by decide +kernel
theorem dX5_court_111 : decode cX5_court 111 = .ok (.getfield 44, 3) := by decide +kernel
theorem dX5_court_114 : decode cX5_court 114 = .ok (.iload_n 3, 1) := by decide +kernel
theorem dX5_court_115 : decode cX5_court 115 = .ok (.putfield 94, 3) := by decide +kernel
theorem dX5_court_118 : decode cX5_court 118 = .ok (.iload 4, 2) := by decide +kernel
theorem dX5_court_120 : decode cX5_court 120 = .ok (.ireturn, 1) := by decide +kernel
set_option maxRecDepth 20000 in
theorem ggX5_bench_X5_isOfCourt : GoodIn wsX5_bench wsX5_isOfCourt := goodIn_r _ [5, 6, 7, 4, 8] (by decide +kernel) (by decide +kernel)
set_option maxRecDepth 20000 in
theorem gX5_bench_X5_isOfCourt : GoodIn wsX5_bench (va_wsS RX5 75 yX5_isOfCourt wsX5_isOfCourt) := goodIn_app (goodIn_of _ (by decide +kernel)) ggX5_bench_X5_isOfCourt
set_option maxRecDepth 20000 in
theorem ggX5_bench_X0_verdict : GoodIn wsX5_bench wsX0_verdict := goodIn_r _ [13, 14, 15, 16, 17, 12, 18, 19, 31, 32, 33, 34, 35, 36, 37, 38, 39, 40, 41, 42, 43, 44, 45] (by decide +kernel) (by decide +kernel)
set_option maxRecDepth 20000 in
theorem gX5_bench_X0_verdict : GoodIn wsX5_bench (wsV RX5 97 RX0 yX0_verdict wsX0_verdict) := goodIn_app (goodIn_of _ (by decide +kernel)) ggX5_bench_X0_verdict
theorem dX5_bench_0 : decode cX5_bench 0 = .ok (.iload_n 1, 1) := by decide +kernel
theorem dX5_bench_1 : decode cX5_bench 1 = .ok (.tableswitch 110 0 4 #[35, 59, 83, 91, 99], 35) := by decide +kernel
theorem dX5_bench_36 : decode cX5_bench 36 = .ok (.iconst 0, 1) := by decide +kernel
theorem dX5_bench_37 : decode cX5_bench 37 = .ok (.iload_n 2, 1) := by decide +kernel
theorem dX5_bench_38 : decode cX5_bench 38 = .ok (.invokestatic 75, 3) := by decide +kernel
theorem dX5_bench_41 : decode cX5_bench 41 = .ok (.ifCond .eq 15, 3) := by decide +kernel
theorem dX5_bench_44 : decode cX5_bench 44 = .ok (.aload_n 0, 1) := by decide +kernel
theorem dX5_bench_45 : decode cX5_bench 45 = .ok (.getfield 44, 3) := by decide +kernel
theorem dX5_bench_48 : decode cX5_bench 48 = .ok (.getfield 83, 3) := by decide +kernel
theorem dX5_bench_51 : decode cX5_bench 51 = .ok (.iload_n 2, 1) := by decide +kernel
theorem dX5_bench_52 : decode cX5_bench 52 = .ok (.iaload, 1) := by decide +kernel
theorem dX5_bench_53 : decode cX5_bench 53 = .ok (.goto 6, 3) := by decide +kernel
theorem dX5_bench_56 : decode cX5_bench 56 = .ok (.sipush (-5000), 3) := by decide +kernel
theorem dX5_bench_59 : decode cX5_bench 59 = .ok (.ireturn, 1) := by decide +kernel
theorem dX5_bench_60 : decode cX5_bench 60 = .ok (.iconst 1, 1) := by decide +kernel
theorem dX5_bench_61 : decode cX5_bench 61 = .ok (.iload_n 2, 1) := by decide +kernel
theorem dX5_bench_62 : decode cX5_bench 62 = .ok (.invokestatic 75, 3) := by decide +kernel
theorem dX5_bench_65 : decode cX5_bench 65 = .ok (.ifCond .eq 15, 3) := by decide +kernel
theorem dX5_bench_68 : decode cX5_bench 68 = .ok (.aload_n 0, 1) := by decide +kernel
theorem dX5_bench_69 : decode cX5_bench 69 = .ok (.getfield 44, 3) := by decide +kernel
theorem dX5_bench_72 : decode cX5_bench 72 = .ok (.getfield 87, 3) := by decide +kernel
theorem dX5_bench_75 : decode cX5_bench 75 = .ok (.iload_n 2, 1) := by decide +kernel
theorem dX5_bench_76 : decode cX5_bench 76 = .ok (.iaload, 1) := by decide +kernel
theorem dX5_bench_77 : decode cX5_bench 77 = .ok (.goto 6, 3) := by decide +kernel
theorem dX5_bench_80 : decode cX5_bench 80 = .ok (.sipush (-5000), 3) := by decide +kernel
theorem dX5_bench_83 : decode cX5_bench 83 = .ok (.ireturn, 1) := by decide +kernel
theorem dX5_bench_84 : decode cX5_bench 84 = .ok (.aload_n 0, 1) := by decide +kernel
theorem dX5_bench_85 : decode cX5_bench 85 = .ok (.getfield 44, 3) := by decide +kernel
theorem dX5_bench_88 : decode cX5_bench 88 = .ok (.getfield 94, 3) := by decide +kernel
theorem dX5_bench_91 : decode cX5_bench 91 = .ok (.ireturn, 1) := by decide +kernel
theorem dX5_bench_92 : decode cX5_bench 92 = .ok (.aload_n 0, 1) := by decide +kernel
theorem dX5_bench_93 : decode cX5_bench 93 = .ok (.getfield 44, 3) := by decide +kernel
theorem dX5_bench_96 : decode cX5_bench 96 = .ok (.invokevirtual 97, 3) := by decide +kernel
theorem dX5_bench_99 : decode cX5_bench 99 = .ok (.ireturn, 1) := by decide +kernel
theorem dX5_bench_100 : decode cX5_bench 100 = .ok (.aload_n 0, 1) := by decide +kernel
theorem dX5_bench_101 : decode cX5_bench 101 = .ok (.getfield 44, 3) := by decide +kernel
theorem dX5_bench_104 : decode cX5_bench 104 = .ok (.getfield 58, 3) := by decide +kernel
theorem dX5_bench_107 : decode cX5_bench 107 = .ok (.bipush 6, 2) := by decide +kernel
theorem dX5_bench_109 : decode cX5_bench 109 = .ok (.irem, 1) := by decide +kernel
theorem dX5_bench_110 : decode cX5_bench 110 = .ok (.ireturn, 1) := by decide +kernel
theorem dX5_bench_111 : decode cX5_bench 111 = .ok (.sipush (-5000), 3) := by decide +kernel
theorem dX5_bench_114 : decode cX5_bench 114 = .ok (.ireturn, 1) := by decide +kernel
set_option maxRecDepth 20000 in
theorem ggX5_isOfCourt_X5_isBelow : GoodIn wsX5_isOfCourt wsX5_isBelow := goodIn_r _ [4] (by decide +kernel) (by decide +kernel)
set_option maxRecDepth 20000 in
theorem gX5_isOfCourt_X5_isBelow : GoodIn wsX5_isOfCourt (va_wsS RX5 100 yX5_isBelow wsX5_isBelow) := goodIn_app (goodIn_of _ (by decide +kernel)) ggX5_isOfCourt_X5_isBelow
theorem dX5_isOfCourt_0 : decode cX5_isOfCourt 0 = .ok (.iload_n 0, 1) := by decide +kernel
theorem dX5_isOfCourt_1 : decode cX5_isOfCourt 1 = .ok (.lookupswitch 41 #[(0, 27), (1, 34)], 27) := by decide +kernel
theorem dX5_isOfCourt_28 : decode cX5_isOfCourt 28 = .ok (.iload_n 1, 1) := by decide +kernel
theorem dX5_isOfCourt_29 : decode cX5_isOfCourt 29 = .ok (.bipush 10, 2) := by decide +kernel
theorem dX5_isOfCourt_31 : decode cX5_isOfCourt 31 = .ok (.invokestatic 100, 3) := by decide +kernel
theorem dX5_isOfCourt_34 : decode cX5_isOfCourt 34 = .ok (.ireturn, 1) := by decide +kernel
theorem dX5_isOfCourt_35 : decode cX5_isOfCourt 35 = .ok (.iload_n 1, 1) := by decide +kernel
theorem dX5_isOfCourt_36 : decode cX5_isOfCourt 36 = .ok (.bipush 6, 2) := by decide +kernel
theorem dX5_isOfCourt_38 : decode cX5_isOfCourt 38 = .ok (.invokestatic 100, 3) := by decide +kernel
theorem dX5_isOfCourt_41 : decode cX5_isOfCourt 41 = .ok (.ireturn, 1) := by decide +kernel
theorem dX5_isOfCourt_42 : decode cX5_isOfCourt 42 = .ok (.iload_n 0, 1) := by decide +kernel
theorem dX5_isOfCourt_43 : decode cX5_isOfCourt 43 = .ok (.iconst 2, 1) := by decide +kernel
theorem dX5_isOfCourt_44 : decode cX5_isOfCourt 44 = .ok (.if_icmp .eq 8, 3) := by decide +kernel
theorem dX5_isOfCourt_47 : decode cX5_isOfCourt 47 = .ok (.iload_n 0, 1) := by decide +kernel
theorem dX5_isOfCourt_48 : decode cX5_isOfCourt 48 = .ok (.iconst 3, 1) := by decide +kernel
theorem dX5_isOfCourt_49 : decode cX5_isOfCourt 49 = .ok (.if_icmp .ne 7, 3) := by decide +kernel
theorem dX5_isOfCourt_52 : decode cX5_isOfCourt 52 = .ok (.iconst 1, 1) := by decide +kernel
theorem dX5_isOfCourt_53 : decode cX5_isOfCourt 53 = .ok (.goto 4, 3) := by decide +kernel
theorem dX5_isOfCourt_56 : decode cX5_isOfCourt 56 = .ok (.iconst 0, 1) := by decide +kernel
theorem dX5_isOfCourt_57 : decode cX5_isOfCourt 57 = .ok (.ireturn, 1) := by decide +kernel
theorem dX5_mostOfCourt_0 : decode cX5_mostOfCourt 0 = .ok (.iload_n 0, 1) := by decide +kernel
theorem dX5_mostOfCourt_1 : decode cX5_mostOfCourt 1 = .ok (.lookupswitch 35 #[(2, 27), (3, 31)], 27) := by decide +kernel
theorem dX5_mostOfCourt_28 : decode cX5_mostOfCourt 28 = .ok (.sipush 999, 3) := by decide +kernel
theorem dX5_mostOfCourt_31 : decode cX5_mostOfCourt 31 = .ok (.ireturn, 1) := by decide +kernel
theorem dX5_mostOfCourt_32 : decode cX5_mostOfCourt 32 = .ok (.sipush 1023, 3) := by decide +kernel
theorem dX5_mostOfCourt_35 : decode cX5_mostOfCourt 35 = .ok (.ireturn, 1) := by decide +kernel
theorem dX5_mostOfCourt_36 : decode cX5_mostOfCourt 36 = .ok (.bipush 99, 2) := by decide +kernel
theorem dX5_mostOfCourt_38 : decode cX5_mostOfCourt 38 = .ok (.ireturn, 1) := by decide +kernel
set_option maxRecDepth 20000 in
theorem ggX5_feed_X5_isByte : GoodIn wsX5_feed wsX5_isByte := goodIn_r _ [5, 6, 7, 4, 8] (by decide +kernel) (by decide +kernel)
set_option maxRecDepth 20000 in
theorem gX5_feed_X5_isByte : GoodIn wsX5_feed (va_wsS RX5 103 yX5_isByte wsX5_isByte) := goodIn_app (goodIn_of _ (by decide +kernel)) ggX5_feed_X5_isByte
set_option maxRecDepth 20000 in
theorem ggX5_feed_X4_append : GoodIn wsX5_feed wsX4_append := goodIn_r _ [13, 14, 15, 27, 28, 29, 30, 31, 32, 33, 34, 35] (by decide +kernel) (by decide +kernel)
set_option maxRecDepth 20000 in
theorem gX5_feed_X4_append : GoodIn wsX5_feed (wsV RX5 107 RX4 yX4_append wsX4_append) := goodIn_app (goodIn_of _ (by decide +kernel)) ggX5_feed_X4_append
theorem dX5_feed_0 : decode cX5_feed 0 = .ok (.iload_n 1, 1) := by decide +kernel
theorem dX5_feed_1 : decode cX5_feed 1 = .ok (.iconst 1, 1) := by decide +kernel
theorem dX5_feed_2 : decode cX5_feed 2 = .ok (.if_icmp .lt 46, 3) := by decide +kernel
theorem dX5_feed_5 : decode cX5_feed 5 = .ok (.iload_n 1, 1) := by decide +kernel
theorem dX5_feed_6 : decode cX5_feed 6 = .ok (.iconst 5, 1) := by decide +kernel
theorem dX5_feed_7 : decode cX5_feed 7 = .ok (.if_icmp .gt 41, 3) := by decide +kernel
theorem dX5_feed_10 : decode cX5_feed 10 = .ok (.iload_n 2, 1) := by decide +kernel
theorem dX5_feed_11 : decode cX5_feed 11 = .ok (.invokestatic 103, 3) := by decide +kernel
theorem dX5_feed_14 : decode cX5_feed 14 = .ok (.ifCond .eq 34, 3) := by decide +kernel
theorem dX5_feed_17 : decode cX5_feed 17 = .ok (.iload_n 3, 1) := by decide +kernel
theorem dX5_feed_18 : decode cX5_feed 18 = .ok (.invokestatic 103, 3) := by decide +kernel
theorem dX5_feed_21 : decode cX5_feed 21 = .ok (.ifCond .eq 27, 3) := by decide +kernel
theorem dX5_feed_24 : decode cX5_feed 24 = .ok (.iload 4, 2) := by decide +kernel
theorem dX5_feed_26 : decode cX5_feed 26 = .ok (.invokestatic 103, 3) := by decide +kernel
theorem dX5_feed_29 : decode cX5_feed 29 = .ok (.ifCond .eq 19, 3) := by decide +kernel
theorem dX5_feed_32 : decode cX5_feed 32 = .ok (.iload 5, 2) := by decide +kernel
theorem dX5_feed_34 : decode cX5_feed 34 = .ok (.invokestatic 103, 3) := by decide +kernel
theorem dX5_feed_37 : decode cX5_feed 37 = .ok (.ifCond .eq 11, 3) := by decide +kernel
theorem dX5_feed_40 : decode cX5_feed 40 = .ok (.iload 6, 2) := by decide +kernel
theorem dX5_feed_42 : decode cX5_feed 42 = .ok (.invokestatic 103, 3) := by decide +kernel
theorem dX5_feed_45 : decode cX5_feed 45 = .ok (.ifCond .ne 6, 3) := by decide +kernel
theorem dX5_feed_48 : decode cX5_feed 48 = .ok (.bipush (-2), 2) := by decide +kernel
theorem dX5_feed_50 : decode cX5_feed 50 = .ok (.ireturn, 1) := by decide +kernel
theorem dX5_feed_51 : decode cX5_feed 51 = .ok (.aload_n 0, 1) := by decide +kernel
theorem dX5_feed_52 : decode cX5_feed 52 = .ok (.getfield 18, 3) := by decide +kernel
theorem dX5_feed_55 : decode cX5_feed 55 = .ok (.getfield 72, 3) := by decide +kernel
theorem dX5_feed_58 : decode cX5_feed 58 = .ok (.iload_n 1, 1) := by decide +kernel
theorem dX5_feed_59 : decode cX5_feed 59 = .ok (.iadd, 1) := by decide +kernel
theorem dX5_feed_60 : decode cX5_feed 60 = .ok (.sipush 160, 3) := by decide +kernel
theorem dX5_feed_63 : decode cX5_feed 63 = .ok (.if_icmp .le 6, 3) := by decide +kernel
theorem dX5_feed_66 : decode cX5_feed 66 = .ok (.bipush (-4), 2) := by decide +kernel
theorem dX5_feed_68 : decode cX5_feed 68 = .ok (.ireturn, 1) := by decide +kernel
theorem dX5_feed_69 : decode cX5_feed 69 = .ok (.aload_n 0, 1) := by decide +kernel
theorem dX5_feed_70 : decode cX5_feed 70 = .ok (.getfield 18, 3) := by decide +kernel
theorem dX5_feed_73 : decode cX5_feed 73 = .ok (.iload_n 2, 1) := by decide +kernel
theorem dX5_feed_74 : decode cX5_feed 74 = .ok (.invokevirtual 107, 3) := by decide +kernel
theorem dX5_feed_77 : decode cX5_feed 77 = .ok (.iconst 1, 1) := by decide +kernel
theorem dX5_feed_78 : decode cX5_feed 78 = .ok (.istore 7, 2) := by decide +kernel
theorem dX5_feed_80 : decode cX5_feed 80 = .ok (.iload 7, 2) := by decide +kernel
theorem dX5_feed_82 : decode cX5_feed 82 = .ok (.iload_n 1, 1) := by decide +kernel
theorem dX5_feed_83 : decode cX5_feed 83 = .ok (.if_icmp .ge 50, 3) := by decide +kernel
theorem dX5_feed_86 : decode cX5_feed 86 = .ok (.aload_n 0, 1) := by decide +kernel
theorem dX5_feed_87 : decode cX5_feed 87 = .ok (.getfield 18, 3) := by decide +kernel
theorem dX5_feed_90 : decode cX5_feed 90 = .ok (.iload 7, 2) := by decide +kernel
theorem dX5_feed_92 : decode cX5_feed 92 = .ok (.iconst 1, 1) := by decide +kernel
theorem dX5_feed_93 : decode cX5_feed 93 = .ok (.if_icmp .ne 7, 3) := by decide +kernel
theorem dX5_feed_96 : decode cX5_feed 96 = .ok (.iload_n 3, 1) := by decide +kernel
theorem dX5_feed_97 : decode cX5_feed 97 = .ok (.goto 27, 3) := by decide +kernel
theorem dX5_feed_100 : decode cX5_feed 100 = .ok (.iload 7, 2) := by decide +kernel
theorem dX5_feed_102 : decode cX5_feed 102 = .ok (.iconst 2, 1) := by decide +kernel
theorem dX5_feed_103 : decode cX5_feed 103 = .ok (.if_icmp .ne 8, 3) := by decide +kernel
theorem dX5_feed_106 : decode cX5_feed 106 = .ok (.iload 4, 2) := by decide +kernel
theorem dX5_feed_108 : decode cX5_feed 108 = .ok (.goto 16, 3) := by decide +kernel
theorem dX5_feed_111 : decode cX5_feed 111 = .ok (.iload 7, 2) := by decide +kernel
theorem dX5_feed_113 : decode cX5_feed 113 = .ok (.iconst 3, 1) := by decide +kernel
theorem dX5_feed_114 : decode cX5_feed 114 = .ok (.if_icmp .ne 8, 3) := by decide +kernel
theorem dX5_feed_117 : decode cX5_feed 117 = .ok (.iload 5, 2) := by decide +kernel
theorem dX5_feed_119 : decode cX5_feed 119 = .ok (.goto 5, 3) := by decide +kernel
theorem dX5_feed_122 : decode cX5_feed 122 = .ok (.iload 6, 2) := by decide +kernel
theorem dX5_feed_124 : decode cX5_feed 124 = .ok (.invokevirtual 107, 3) := by decide +kernel
theorem dX5_feed_127 : decode cX5_feed 127 = .ok (.iinc 7 1, 3) := by decide +kernel
theorem dX5_feed_130 : decode cX5_feed 130 = .ok (.goto (-50), 3) := by decide +kernel
theorem dX5_feed_133 : decode cX5_feed 133 = .ok (.aload_n 0, 1) := by decide +kernel
theorem dX5_feed_134 : decode cX5_feed 134 = .ok (.getfield 18, 3) := by decide +kernel
theorem dX5_feed_137 : decode cX5_feed 137 = .ok (.getfield 72, 3) := by decide +kernel
theorem dX5_feed_140 : decode cX5_feed 140 = .ok (.ireturn, 1) := by decide +kernel
set_option maxRecDepth 20000 in
theorem ggX5_isByte_X5_isBelow : GoodIn wsX5_isByte wsX5_isBelow := goodIn_r _ [4] (by decide +kernel) (by decide +kernel)
set_option maxRecDepth 20000 in
theorem gX5_isByte_X5_isBelow : GoodIn wsX5_isByte (va_wsS RX5 100 yX5_isBelow wsX5_isBelow) := goodIn_app (goodIn_of _ (by decide +kernel)) ggX5_isByte_X5_isBelow
theorem dX5_isByte_0 : decode cX5_isByte 0 = .ok (.iload_n 0, 1) := by decide +kernel
theorem dX5_isByte_1 : decode cX5_isByte 1 = .ok (.sipush 256, 3) := by decide +kernel
theorem dX5_isByte_4 : decode cX5_isByte 4 = .ok (.invokestatic 100, 3) := by decide +kernel
theorem dX5_isByte_7 : decode cX5_isByte 7 = .ok (.ireturn, 1) := by decide +kernel
set_option maxRecDepth 20000 in
theorem ggX5_text_X4_fault : GoodIn wsX5_text wsX4_fault := goodIn_r _ [8, 9, 10, 11, 12, 13, 14, 15, 16, 7, 17, 18, 19, 20, 21, 22, 23, 24, 25, 26, 27, 28, 29, 30, 31, 32, 33, 34, 35, 36, 37, 38, 39, 40, 41, 42, 43, 44, 45, 46, 47, 48, 49, 50, 51, 52, 53, 54, 55, 56, 57, 58, 59, 60, 61, 62, 63, 64, 65, 66, 67, 68, 69, 70, 71, 72, 73, 74, 75, 76, 77, 78, 79, 80, 81, 82, 83, 84, 85, 86, 87, 88, 89, 90, 91, 92, 93, 94, 95, 96, 97, 98, 99, 100, 101, 102, 103, 104, 105, 106, 107, 108, 109, 110, 111, 112, 113, 114, 115, 116, 117, 118, 119, 120, 121, 122, 123, 124, 125, 126, 127, 128, 129, 130, 131, 132, 133, 134, 135, 136, 137, 138, 139, 140, 141, 142, 143, 144, 145, 146, 147, 148, 149, 150, 151, 152, 153, 154, 155, 156, 157, 158, 159, 160, 161, 162, 163, 164, 165, 166, 167, 168, 169, 170, 171, 172, 173, 174, 175, 176, 177, 178, 179, 180, 181, 182, 183, 184, 185, 186, 187, 188, 189, 234, 235, 236, 237, 238, 239, 240, 241, 242] (by decide +kernel) (by decide +kernel)
set_option maxRecDepth 20000 in
theorem gX5_text_X4_fault : GoodIn wsX5_text (wsV RX5 111 RX4 yX4_fault wsX4_fault) := goodIn_app (goodIn_of _ (by decide +kernel)) ggX5_text_X4_fault
set_option maxRecDepth 20000 in
theorem ggX5_text_X4_lawRead : GoodIn wsX5_text wsX4_lawRead := goodIn_r _ [193, 194, 195, 196, 164, 10, 11, 197, 198, 199, 200, 201, 202, 203, 204, 205, 206, 207, 208, 105, 102, 106, 209, 210, 211, 212, 213, 214, 215, 216, 217, 218, 219, 220, 221, 222, 243, 244, 245, 246, 234, 235, 236, 237, 238, 239, 240, 241, 242] (by decide +kernel) (by decide +kernel)
set_option maxRecDepth 20000 in
theorem gX5_text_X4_lawRead : GoodIn wsX5_text (wsV RX5 114 RX4 yX4_lawRead wsX4_lawRead) := goodIn_app (goodIn_of _ (by decide +kernel)) ggX5_text_X4_lawRead
theorem dX5_text_0 : decode cX5_text 0 = .ok (.aload_n 0, 1) := by decide +kernel
theorem dX5_text_1 : decode cX5_text 1 = .ok (.getfield 37, 3) := by decide +kernel
theorem dX5_text_4 : decode cX5_text 4 = .ok (.bipush 6, 2) := by decide +kernel
theorem dX5_text_6 : decode cX5_text 6 = .ok (.if_icmp .lt 6, 3) := by decide +kernel
theorem dX5_text_9 : decode cX5_text 9 = .ok (.bipush (-4), 2) := by decide +kernel
theorem dX5_text_11 : decode cX5_text 11 = .ok (.ireturn, 1) := by decide +kernel
theorem dX5_text_12 : decode cX5_text 12 = .ok (.aload_n 0, 1) := by decide +kernel
theorem dX5_text_13 : decode cX5_text 13 = .ok (.getfield 18, 3) := by decide +kernel
theorem dX5_text_16 : decode cX5_text 16 = .ok (.invokevirtual 111, 3) := by decide +kernel
theorem dX5_text_19 : decode cX5_text 19 = .ok (.istore_n 1, 1) := by decide +kernel
theorem dX5_text_20 : decode cX5_text 20 = .ok (.aload_n 0, 1) := by decide +kernel
theorem dX5_text_21 : decode cX5_text 21 = .ok (.getfield 18, 3) := by decide +kernel
theorem dX5_text_24 : decode cX5_text 24 = .ok (.iconst 0, 1) := by decide +kernel
theorem dX5_text_25 : decode cX5_text 25 = .ok (.putfield 72, 3) := by decide +kernel
theorem dX5_text_28 : decode cX5_text 28 = .ok (.iload_n 1, 1) := by decide +kernel
theorem dX5_text_29 : decode cX5_text 29 = .ok (.iconst (-1), 1) := by decide +kernel
theorem dX5_text_30 : decode cX5_text 30 = .ok (.if_icmp .eq 8, 3) := by decide +kernel
theorem dX5_text_33 : decode cX5_text 33 = .ok (.bipush (-100), 2) := by decide +kernel
theorem dX5_text_35 : decode cX5_text 35 = .ok (.iload_n 1, 1) := by decide +kernel
theorem dX5_text_36 : decode cX5_text 36 = .ok (.isub, 1) := by decide +kernel
theorem dX5_text_37 : decode cX5_text 37 = .ok (.ireturn, 1) := by decide +kernel
theorem dX5_text_38 : decode cX5_text 38 = .ok (.aload_n 0, 1) := by decide +kernel
theorem dX5_text_39 : decode cX5_text 39 = .ok (.getfield 37, 3) := by decide +kernel
theorem dX5_text_42 : decode cX5_text 42 = .ok (.istore_n 2, 1) := by decide +kernel
theorem dX5_text_43 : decode cX5_text 43 = .ok (.aload_n 0, 1) := by decide +kernel
theorem dX5_text_44 : decode cX5_text 44 = .ok (.getfield 11, 3) := by decide +kernel
theorem dX5_text_47 : decode cX5_text 47 = .ok (.iload_n 2, 1) := by decide +kernel
theorem dX5_text_48 : decode cX5_text 48 = .ok (.aload_n 0, 1) := by decide +kernel
theorem dX5_text_49 : decode cX5_text 49 = .ok (.getfield 18, 3) := by decide +kernel
theorem dX5_text_52 : decode cX5_text 52 = .ok (.iload_n 2, 1) := by decide +kernel
theorem dX5_text_53 : decode cX5_text 53 = .ok (.invokevirtual 114, 3) := by decide +kernel
theorem dX5_text_56 : decode cX5_text 56 = .ok (.aastore, 1) := by decide +kernel
theorem dX5_text_57 : decode cX5_text 57 = .ok (.aload_n 0, 1) := by decide +kernel
theorem dX5_text_58 : decode cX5_text 58 = .ok (.dup, 1) := by decide +kernel
theorem dX5_text_59 : decode cX5_text 59 = .ok (.getfield 37, 3) := by decide +kernel
theorem dX5_text_62 : decode cX5_text 62 = .ok (.iconst 1, 1) := by decide +kernel
theorem dX5_text_63 : decode cX5_text 63 = .ok (.iadd, 1) := by decide +kernel
theorem dX5_text_64 : decode cX5_text 64 = .ok (.putfield 37, 3) := by decide +kernel
theorem dX5_text_67 : decode cX5_text 67 = .ok (.iload_n 2, 1) := by decide +kernel
theorem dX5_text_68 : decode cX5_text 68 = .ok (.ireturn, 1) := by decide +kernel
set_option maxRecDepth 20000 in
theorem ggX5_force_X5_isBelow : GoodIn wsX5_force wsX5_isBelow := goodIn_r _ [7] (by decide +kernel) (by decide +kernel)
set_option maxRecDepth 20000 in
theorem gX5_force_X5_isBelow : GoodIn wsX5_force (va_wsS RX5 100 yX5_isBelow wsX5_isBelow) := goodIn_app (goodIn_of _ (by decide +kernel)) ggX5_force_X5_isBelow
theorem dX5_force_0 : decode cX5_force 0 = .ok (.iload_n 1, 1) := by decide +kernel
theorem dX5_force_1 : decode cX5_force 1 = .ok (.aload_n 0, 1) := by decide +kernel
theorem dX5_force_2 : decode cX5_force 2 = .ok (.getfield 37, 3) := by decide +kernel
theorem dX5_force_5 : decode cX5_force 5 = .ok (.invokestatic 100, 3) := by decide +kernel
theorem dX5_force_8 : decode cX5_force 8 = .ok (.ifCond .ne 6, 3) := by decide +kernel
theorem dX5_force_11 : decode cX5_force 11 = .ok (.bipush (-2), 2) := by decide +kernel
theorem dX5_force_13 : decode cX5_force 13 = .ok (.ireturn, 1) := by decide +kernel
theorem dX5_force_14 : decode cX5_force 14 = .ok (.aload_n 0, 1) := by decide +kernel
theorem dX5_force_15 : decode cX5_force 15 = .ok (.getfield 44, 3) := by decide +kernel
theorem dX5_force_18 : decode cX5_force 18 = .ok (.getfield 65, 3) := by decide +kernel
theorem dX5_force_21 : decode cX5_force 21 = .ok (.getfield 69, 3) := by decide +kernel
theorem dX5_force_24 : decode cX5_force 24 = .ok (.istore_n 2, 1) := by decide +kernel
theorem dX5_force_25 : decode cX5_force 25 = .ok (.aload_n 0, 1) := by decide +kernel
theorem dX5_force_26 : decode cX5_force 26 = .ok (.getfield 44, 3) := by decide +kernel
theorem dX5_force_29 : decode cX5_force 29 = .ok (.aload_n 0, 1) := by decide +kernel
theorem dX5_force_30 : decode cX5_force 30 = .ok (.getfield 11, 3) := by decide +kernel
theorem dX5_force_33 : decode cX5_force 33 = .ok (.iload_n 1, 1) := by decide +kernel
theorem dX5_force_34 : decode cX5_force 34 = .ok (.aaload, 1) := by decide +kernel
theorem dX5_force_35 : decode cX5_force 35 = .ok (.putfield 65, 3) := by decide +kernel
theorem dX5_force_38 : decode cX5_force 38 = .ok (.iload_n 2, 1) := by decide +kernel
theorem dX5_force_39 : decode cX5_force 39 = .ok (.ireturn, 1) := by decide +kernel
set_option maxRecDepth 20000 in
theorem ggX5_asks_X5_isBelow : GoodIn wsX5_asks wsX5_isBelow := goodIn_r _ [5] (by decide +kernel) (by decide +kernel)
set_option maxRecDepth 20000 in
theorem gX5_asks_X5_isBelow : GoodIn wsX5_asks (va_wsS RX5 100 yX5_isBelow wsX5_isBelow) := goodIn_app (goodIn_of _ (by decide +kernel)) ggX5_asks_X5_isBelow
set_option maxRecDepth 20000 in
theorem ggX5_asks_X0_hasWitness : GoodIn wsX5_asks wsX0_hasWitness := goodIn_r _ [10, 11, 3, 4, 5, 67, 68, 69, 70, 71, 72, 73, 74, 75, 76, 77, 78, 79, 80, 81] (by decide +kernel) (by decide +kernel)
set_option maxRecDepth 20000 in
theorem gX5_asks_X0_hasWitness : GoodIn wsX5_asks (wsV RX5 118 RX0 yX0_hasWitness wsX0_hasWitness) := goodIn_app (goodIn_of _ (by decide +kernel)) ggX5_asks_X0_hasWitness
set_option maxRecDepth 20000 in
theorem ggX5_asks_X2_says : GoodIn wsX5_asks wsX2_says := goodIn_r _ [16, 17, 18, 19, 20, 21, 22, 9, 23, 24, 25, 26, 27, 28, 29, 30, 31, 32, 33, 34, 35, 36, 37, 38, 39, 40, 41, 42, 15, 43, 44, 45, 46, 47, 4, 48, 49, 50, 51, 52, 53, 54, 55, 67, 68, 69, 70, 71, 72, 73, 74, 75, 76, 77, 78, 79, 80, 81, 82, 83, 84, 85] (by decide +kernel) (by decide +kernel)
set_option maxRecDepth 20000 in
theorem gX5_asks_X2_says : GoodIn wsX5_asks (wsV RX5 121 RX2 yX2_says wsX2_says) := goodIn_app (goodIn_of _ (by decide +kernel)) ggX5_asks_X2_says
theorem dX5_asks_0 : decode cX5_asks 0 = .ok (.iload_n 1, 1) := by decide +kernel
theorem dX5_asks_1 : decode cX5_asks 1 = .ok (.iconst 3, 1) := by decide +kernel
theorem dX5_asks_2 : decode cX5_asks 2 = .ok (.invokestatic 100, 3) := by decide +kernel
theorem dX5_asks_5 : decode cX5_asks 5 = .ok (.ifCond .eq 14, 3) := by decide +kernel
theorem dX5_asks_8 : decode cX5_asks 8 = .ok (.aload_n 0, 1) := by decide +kernel
theorem dX5_asks_9 : decode cX5_asks 9 = .ok (.getfield 44, 3) := by decide +kernel
theorem dX5_asks_12 : decode cX5_asks 12 = .ok (.iload_n 2, 1) := by decide +kernel
theorem dX5_asks_13 : decode cX5_asks 13 = .ok (.invokevirtual 118, 3) := by decide +kernel
theorem dX5_asks_16 : decode cX5_asks 16 = .ok (.ifCond .ne 7, 3) := by decide +kernel
theorem dX5_asks_19 : decode cX5_asks 19 = .ok (.sipush (-1000), 3) := by decide +kernel
theorem dX5_asks_22 : decode cX5_asks 22 = .ok (.ireturn, 1) := by decide +kernel
theorem dX5_asks_23 : decode cX5_asks 23 = .ok (.aload_n 0, 1) := by decide +kernel
theorem dX5_asks_24 : decode cX5_asks 24 = .ok (.getfield 44, 3) := by decide +kernel
theorem dX5_asks_27 : decode cX5_asks 27 = .ok (.getfield 65, 3) := by decide +kernel
theorem dX5_asks_30 : decode cX5_asks 30 = .ok (.iload_n 1, 1) := by decide +kernel
theorem dX5_asks_31 : decode cX5_asks 31 = .ok (.aload_n 0, 1) := by decide +kernel
theorem dX5_asks_32 : decode cX5_asks 32 = .ok (.getfield 44, 3) := by decide +kernel
theorem dX5_asks_35 : decode cX5_asks 35 = .ok (.iload_n 2, 1) := by decide +kernel
theorem dX5_asks_36 : decode cX5_asks 36 = .ok (.invokevirtual 121, 3) := by decide +kernel
theorem dX5_asks_39 : decode cX5_asks 39 = .ok (.ireturn, 1) := by decide +kernel
set_option maxRecDepth 20000 in
theorem ggX5_witness_X5_isBelow : GoodIn wsX5_witness wsX5_isBelow := goodIn_r _ [5] (by decide +kernel) (by decide +kernel)
set_option maxRecDepth 20000 in
theorem gX5_witness_X5_isBelow : GoodIn wsX5_witness (va_wsS RX5 100 yX5_isBelow wsX5_isBelow) := goodIn_app (goodIn_of _ (by decide +kernel)) ggX5_witness_X5_isBelow
set_option maxRecDepth 20000 in
theorem ggX5_witness_X0_welcome : GoodIn wsX5_witness wsX0_welcome := goodIn_r _ [10, 11, 12, 13, 14, 15, 16, 28, 29, 30, 31, 32, 33, 34, 35, 36, 37, 38, 39, 40, 41, 42] (by decide +kernel) (by decide +kernel)
set_option maxRecDepth 20000 in
theorem gX5_witness_X0_welcome : GoodIn wsX5_witness (wsV RX5 125 RX0 yX0_welcome wsX0_welcome) := goodIn_app (goodIn_of _ (by decide +kernel)) ggX5_witness_X0_welcome
theorem dX5_witness_0 : decode cX5_witness 0 = .ok (.iload_n 1, 1) := by decide +kernel
theorem dX5_witness_1 : decode cX5_witness 1 = .ok (.bipush 60, 2) := by decide +kernel
theorem dX5_witness_3 : decode cX5_witness 3 = .ok (.invokestatic 100, 3) := by decide +kernel
theorem dX5_witness_6 : decode cX5_witness 6 = .ok (.ifCond .eq 22, 3) := by decide +kernel
theorem dX5_witness_9 : decode cX5_witness 9 = .ok (.iload_n 2, 1) := by decide +kernel
theorem dX5_witness_10 : decode cX5_witness 10 = .ok (.sipush 1024, 3) := by decide +kernel
theorem dX5_witness_13 : decode cX5_witness 13 = .ok (.invokestatic 100, 3) := by decide +kernel
theorem dX5_witness_16 : decode cX5_witness 16 = .ok (.ifCond .eq 12, 3) := by decide +kernel
theorem dX5_witness_19 : decode cX5_witness 19 = .ok (.iload_n 3, 1) := by decide +kernel
theorem dX5_witness_20 : decode cX5_witness 20 = .ok (.bipush 100, 2) := by decide +kernel
theorem dX5_witness_22 : decode cX5_witness 22 = .ok (.invokestatic 100, 3) := by decide +kernel
theorem dX5_witness_25 : decode cX5_witness 25 = .ok (.ifCond .ne 6, 3) := by decide +kernel
theorem dX5_witness_28 : decode cX5_witness 28 = .ok (.bipush (-2), 2) := by decide +kernel
theorem dX5_witness_30 : decode cX5_witness 30 = .ok (.ireturn, 1) := by decide +kernel
theorem dX5_witness_31 : decode cX5_witness 31 = .ok (.aload_n 0, 1) := by decide +kernel
theorem dX5_witness_32 : decode cX5_witness 32 = .ok (.getfield 44, 3) := by decide +kernel
theorem dX5_witness_35 : decode cX5_witness 35 = .ok (.getfield 55, 3) := by decide +kernel
theorem dX5_witness_38 : decode cX5_witness 38 = .ok (.bipush 6, 2) := by decide +kernel
theorem dX5_witness_40 : decode cX5_witness 40 = .ok (.if_icmp .lt 8, 3) := by decide +kernel
theorem dX5_witness_43 : decode cX5_witness 43 = .ok (.bipush (-4), 2) := by decide +kernel
theorem dX5_witness_45 : decode cX5_witness 45 = .ok (.goto 13, 3) := by decide +kernel
theorem dX5_witness_48 : decode cX5_witness 48 = .ok (.aload_n 0, 1) := by decide +kernel
theorem dX5_witness_49 : decode cX5_witness 49 = .ok (.getfield 44, 3) := by decide +kernel
theorem dX5_witness_52 : decode cX5_witness 52 = .ok (.iload_n 1, 1) := by decide +kernel
theorem dX5_witness_53 : decode cX5_witness 53 = .ok (.iload_n 2, 1) := by decide +kernel
theorem dX5_witness_54 : decode cX5_witness 54 = .ok (.iload_n 3, 1) := by decide +kernel
theorem dX5_witness_55 : decode cX5_witness 55 = .ok (.invokevirtual 125, 3) := by decide +kernel
theorem dX5_witness_58 : decode cX5_witness 58 = .ok (.ireturn, 1) := by decide +kernel
set_option maxRecDepth 20000 in
theorem ggX5_put_X0_hasWitness : GoodIn wsX5_put wsX0_hasWitness := goodIn_r _ [6, 7, 8, 9, 10, 26, 27, 28, 29, 30, 31, 32, 33, 34, 35, 36, 37, 38, 39, 40] (by decide +kernel) (by decide +kernel)
set_option maxRecDepth 20000 in
theorem gX5_put_X0_hasWitness : GoodIn wsX5_put (wsV RX5 118 RX0 yX0_hasWitness wsX0_hasWitness) := goodIn_app (goodIn_of _ (by decide +kernel)) ggX5_put_X0_hasWitness
set_option maxRecDepth 20000 in
theorem ggX5_put_X5_isBelow : GoodIn wsX5_put wsX5_isBelow := goodIn_r _ [10] (by decide +kernel) (by decide +kernel)
set_option maxRecDepth 20000 in
theorem gX5_put_X5_isBelow : GoodIn wsX5_put (va_wsS RX5 100 yX5_isBelow wsX5_isBelow) := goodIn_app (goodIn_of _ (by decide +kernel)) ggX5_put_X5_isBelow
set_option maxRecDepth 20000 in
theorem ggX5_put_X5_replaced : GoodIn wsX5_put wsX5_replaced := goodIn_r _ [14] (by decide +kernel) (by decide +kernel)
set_option maxRecDepth 20000 in
theorem gX5_put_X5_replaced : GoodIn wsX5_put (va_wsS RX5 90 yX5_replaced wsX5_replaced) := goodIn_app (goodIn_of _ (by decide +kernel)) ggX5_put_X5_replaced
theorem dX5_put_0 : decode cX5_put 0 = .ok (.aload_n 0, 1) := by decide +kernel
theorem dX5_put_1 : decode cX5_put 1 = .ok (.getfield 44, 3) := by decide +kernel
theorem dX5_put_4 : decode cX5_put 4 = .ok (.iload_n 1, 1) := by decide +kernel
theorem dX5_put_5 : decode cX5_put 5 = .ok (.invokevirtual 118, 3) := by decide +kernel
theorem dX5_put_8 : decode cX5_put 8 = .ok (.ifCond .ne 6, 3) := by decide +kernel
theorem dX5_put_11 : decode cX5_put 11 = .ok (.bipush (-5), 2) := by decide +kernel
theorem dX5_put_13 : decode cX5_put 13 = .ok (.ireturn, 1) := by decide +kernel
theorem dX5_put_14 : decode cX5_put 14 = .ok (.iload_n 2, 1) := by decide +kernel
theorem dX5_put_15 : decode cX5_put 15 = .ok (.iconst 2, 1) := by decide +kernel
theorem dX5_put_16 : decode cX5_put 16 = .ok (.invokestatic 100, 3) := by decide +kernel
theorem dX5_put_19 : decode cX5_put 19 = .ok (.ifCond .eq 22, 3) := by decide +kernel
theorem dX5_put_22 : decode cX5_put 22 = .ok (.iload_n 3, 1) := by decide +kernel
theorem dX5_put_23 : decode cX5_put 23 = .ok (.iload_n 2, 1) := by decide +kernel
theorem dX5_put_24 : decode cX5_put 24 = .ok (.ifCond .ne 9, 3) := by decide +kernel
theorem dX5_put_27 : decode cX5_put 27 = .ok (.sipush 1024, 3) := by decide +kernel
theorem dX5_put_30 : decode cX5_put 30 = .ok (.goto 5, 3) := by decide +kernel
theorem dX5_put_33 : decode cX5_put 33 = .ok (.bipush 100, 2) := by decide +kernel
theorem dX5_put_35 : decode cX5_put 35 = .ok (.invokestatic 100, 3) := by decide +kernel
theorem dX5_put_38 : decode cX5_put 38 = .ok (.ifCond .ne 6, 3) := by decide +kernel
theorem dX5_put_41 : decode cX5_put 41 = .ok (.bipush (-7), 2) := by decide +kernel
theorem dX5_put_43 : decode cX5_put 43 = .ok (.ireturn, 1) := by decide +kernel
theorem dX5_put_44 : decode cX5_put 44 = .ok (.iload_n 2, 1) := by decide +kernel
theorem dX5_put_45 : decode cX5_put 45 = .ok (.ifCond .ne 13, 3) := by decide +kernel
theorem dX5_put_48 : decode cX5_put 48 = .ok (.aload_n 0, 1) := by decide +kernel
theorem dX5_put_49 : decode cX5_put 49 = .ok (.getfield 44, 3) := by decide +kernel
theorem dX5_put_52 : decode cX5_put 52 = .ok (.getfield 129, 3) := by decide +kernel
theorem dX5_put_55 : decode cX5_put 55 = .ok (.goto 10, 3) := by decide +kernel
theorem dX5_put_58 : decode cX5_put 58 = .ok (.aload_n 0, 1) := by decide +kernel
theorem dX5_put_59 : decode cX5_put 59 = .ok (.getfield 44, 3) := by decide +kernel
theorem dX5_put_62 : decode cX5_put 62 = .ok (.getfield 132, 3) := by decide +kernel
theorem dX5_put_65 : decode cX5_put 65 = .ok (.iload_n 1, 1) := by decide +kernel
theorem dX5_put_66 : decode cX5_put 66 = .ok (.iload_n 3, 1) := by decide +kernel
theorem dX5_put_67 : decode cX5_put 67 = .ok (.invokestatic 90, 3) := by decide +kernel
theorem dX5_put_70 : decode cX5_put 70 = .ok (.ireturn, 1) := by decide +kernel
set_option maxRecDepth 20000 in
theorem ggX5_told_X0_hasWitness : GoodIn wsX5_told wsX0_hasWitness := goodIn_r _ [6, 7, 8, 9, 10, 111, 112, 113, 114, 115, 116, 117, 118, 119, 120, 121, 122, 123, 124, 125] (by decide +kernel) (by decide +kernel)
set_option maxRecDepth 20000 in
theorem gX5_told_X0_hasWitness : GoodIn wsX5_told (wsV RX5 118 RX0 yX0_hasWitness wsX0_hasWitness) := goodIn_app (goodIn_of _ (by decide +kernel)) ggX5_told_X0_hasWitness
set_option maxRecDepth 20000 in
theorem ggX5_told_X0_drops : GoodIn wsX5_told wsX0_drops := goodIn_r _ [14, 15, 16, 17, 18, 19, 20, 21, 22, 23, 24, 25, 26, 27, 28, 29, 30, 31, 32, 33, 34, 35, 36, 5, 37, 38, 39, 40, 41, 42, 43, 44, 45, 46, 47, 48, 49, 50, 51, 52, 9, 53, 54, 55, 56, 57, 58, 59, 60, 61, 62, 63, 64, 65, 66, 67, 68, 69, 111, 112, 113, 114, 115, 116, 117, 118, 119, 120, 121, 122, 123, 124, 125, 126, 127, 128, 129] (by decide +kernel) (by decide +kernel)
set_option maxRecDepth 20000 in
theorem gX5_told_X0_drops : GoodIn wsX5_told (wsV RX5 144 RX0 yX0_drops wsX0_drops) := goodIn_app (goodIn_of _ (by decide +kernel)) ggX5_told_X0_drops
set_option maxRecDepth 20000 in
theorem ggX5_told_X0_waits : GoodIn wsX5_told wsX0_waits := goodIn_r _ [73, 17, 16, 18, 39, 26, 27, 28, 29, 30, 31, 32, 33, 34, 35, 36, 5, 37, 38, 15, 40, 19, 20, 21, 22, 23, 24, 25, 41, 42, 43, 44, 45, 46, 47, 48, 49, 50, 51, 52, 9, 53, 54, 55, 56, 57, 58, 59, 60, 74, 75, 63, 76, 111, 112, 113, 114, 115, 116, 117, 118, 119, 120, 121, 122, 123, 124, 125, 126, 127, 128, 129] (by decide +kernel) (by decide +kernel)
set_option maxRecDepth 20000 in
theorem gX5_told_X0_waits : GoodIn wsX5_told (wsV RX5 147 RX0 yX0_waits wsX0_waits) := goodIn_app (goodIn_of _ (by decide +kernel)) ggX5_told_X0_waits
set_option maxRecDepth 20000 in
theorem ggX5_told_X0_linensOf : GoodIn wsX5_told wsX0_linensOf := goodIn_r _ [80, 45, 111, 112, 113, 114, 115, 116, 117, 118, 119, 120, 121, 122, 123, 124, 125] (by decide +kernel) (by decide +kernel)
set_option maxRecDepth 20000 in
theorem gX5_told_X0_linensOf : GoodIn wsX5_told (wsV RX5 150 RX0 yX0_linensOf wsX0_linensOf) := goodIn_app (goodIn_of _ (by decide +kernel)) ggX5_told_X0_linensOf
set_option maxRecDepth 20000 in
theorem ggX5_told_X0_stooping : GoodIn wsX5_told wsX0_stooping := goodIn_r _ [84, 85, 86, 87, 5, 88, 89, 90, 91, 92, 93, 17, 16, 18, 26, 27, 28, 29, 30, 31, 32, 33, 34, 35, 36, 37, 38, 15, 39, 40, 19, 20, 21, 22, 23, 24, 25, 41, 42, 43, 44, 45, 46, 47, 48, 49, 50, 51, 52, 9, 53, 54, 55, 56, 57, 58, 59, 60, 94, 95, 63, 96, 97, 98, 99, 111, 112, 113, 114, 115, 116, 117, 118, 119, 120, 121, 122, 123, 124, 125, 126, 127, 128, 129] (by decide +kernel) (by decide +kernel)
set_option maxRecDepth 20000 in
theorem gX5_told_X0_stooping : GoodIn wsX5_told (wsV RX5 153 RX0 yX0_stooping wsX0_stooping) := goodIn_app (goodIn_of _ (by decide +kernel)) ggX5_told_X0_stooping
theorem dX5_told_0 : decode cX5_told 0 = .ok (.aload_n 0, 1) := by decide +kernel
theorem dX5_told_1 : decode cX5_told 1 = .ok (.getfield 44, 3) := by decide +kernel
theorem dX5_told_4 : decode cX5_told 4 = .ok (.iload_n 1, 1) := by decide +kernel
theorem dX5_told_5 : decode cX5_told 5 = .ok (.invokevirtual 118, 3) := by decide +kernel
theorem dX5_told_8 : decode cX5_told 8 = .ok (.ifCond .ne 6, 3) := by decide +kernel
theorem dX5_told_11 : decode cX5_told 11 = .ok (.bipush (-5), 2) := by decide +kernel
theorem dX5_told_13 : decode cX5_told 13 = .ok (.ireturn, 1) := by decide +kernel
theorem dX5_told_14 : decode cX5_told 14 = .ok (.iload_n 2, 1) := by decide +kernel
theorem dX5_told_15 : decode cX5_told 15 = .ok (.tableswitch 135 0 8 #[49, 59, 69, 79, 89, 99, 108, 117, 126], 49) := by decide +kernel
theorem dX5_told_64 : decode cX5_told 64 = .ok (.aload_n 0, 1) := by decide +kernel
theorem dX5_told_65 : decode cX5_told 65 = .ok (.getfield 44, 3) := by decide +kernel
theorem dX5_told_68 : decode cX5_told 68 = .ok (.getfield 129, 3) := by decide +kernel
theorem dX5_told_71 : decode cX5_told 71 = .ok (.iload_n 1, 1) := by decide +kernel
theorem dX5_told_72 : decode cX5_told 72 = .ok (.iaload, 1) := by decide +kernel
theorem dX5_told_73 : decode cX5_told 73 = .ok (.ireturn, 1) := by decide +kernel
theorem dX5_told_74 : decode cX5_told 74 = .ok (.aload_n 0, 1) := by decide +kernel
theorem dX5_told_75 : decode cX5_told 75 = .ok (.getfield 44, 3) := by decide +kernel
theorem dX5_told_78 : decode cX5_told 78 = .ok (.getfield 132, 3) := by decide +kernel
theorem dX5_told_81 : decode cX5_told 81 = .ok (.iload_n 1, 1) := by decide +kernel
theorem dX5_told_82 : decode cX5_told 82 = .ok (.iaload, 1) := by decide +kernel
theorem dX5_told_83 : decode cX5_told 83 = .ok (.ireturn, 1) := by decide +kernel
theorem dX5_told_84 : decode cX5_told 84 = .ok (.aload_n 0, 1) := by decide +kernel
theorem dX5_told_85 : decode cX5_told 85 = .ok (.getfield 44, 3) := by decide +kernel
theorem dX5_told_88 : decode cX5_told 88 = .ok (.getfield 135, 3) := by decide +kernel
theorem dX5_told_91 : decode cX5_told 91 = .ok (.iload_n 1, 1) := by decide +kernel
theorem dX5_told_92 : decode cX5_told 92 = .ok (.iaload, 1) := by decide +kernel
theorem dX5_told_93 : decode cX5_told 93 = .ok (.ireturn, 1) := by decide +kernel
theorem dX5_told_94 : decode cX5_told 94 = .ok (.aload_n 0, 1) := by decide +kernel
theorem dX5_told_95 : decode cX5_told 95 = .ok (.getfield 44, 3) := by decide +kernel
theorem dX5_told_98 : decode cX5_told 98 = .ok (.getfield 138, 3) := by decide +kernel
theorem dX5_told_101 : decode cX5_told 101 = .ok (.iload_n 1, 1) := by decide +kernel
theorem dX5_told_102 : decode cX5_told 102 = .ok (.iaload, 1) := by decide +kernel
theorem dX5_told_103 : decode cX5_told 103 = .ok (.ireturn, 1) := by decide +kernel
theorem dX5_told_104 : decode cX5_told 104 = .ok (.aload_n 0, 1) := by decide +kernel
theorem dX5_told_105 : decode cX5_told 105 = .ok (.getfield 44, 3) := by decide +kernel
theorem dX5_told_108 : decode cX5_told 108 = .ok (.getfield 141, 3) := by decide +kernel
theorem dX5_told_111 : decode cX5_told 111 = .ok (.iload_n 1, 1) := by decide +kernel
theorem dX5_told_112 : decode cX5_told 112 = .ok (.iaload, 1) := by decide +kernel
theorem dX5_told_113 : decode cX5_told 113 = .ok (.ireturn, 1) := by decide +kernel
theorem dX5_told_114 : decode cX5_told 114 = .ok (.aload_n 0, 1) := by decide +kernel
theorem dX5_told_115 : decode cX5_told 115 = .ok (.getfield 44, 3) := by decide +kernel
theorem dX5_told_118 : decode cX5_told 118 = .ok (.iload_n 1, 1) := by decide +kernel
theorem dX5_told_119 : decode cX5_told 119 = .ok (.invokevirtual 144, 3) := by decide +kernel
theorem dX5_told_122 : decode cX5_told 122 = .ok (.ireturn, 1) := by decide +kernel
theorem dX5_told_123 : decode cX5_told 123 = .ok (.aload_n 0, 1) := by decide +kernel
theorem dX5_told_124 : decode cX5_told 124 = .ok (.getfield 44, 3) := by decide +kernel
theorem dX5_told_127 : decode cX5_told 127 = .ok (.iload_n 1, 1) := by decide +kernel
theorem dX5_told_128 : decode cX5_told 128 = .ok (.invokevirtual 147, 3) := by decide +kernel
theorem dX5_told_131 : decode cX5_told 131 = .ok (.ireturn, 1) := by decide +kernel
theorem dX5_told_132 : decode cX5_told 132 = .ok (.aload_n 0, 1) := by decide +kernel
theorem dX5_told_133 : decode cX5_told 133 = .ok (.getfield 44, 3) := by decide +kernel
theorem dX5_told_136 : decode cX5_told 136 = .ok (.iload_n 1, 1) := by decide +kernel
theorem dX5_told_137 : decode cX5_told 137 = .ok (.invokevirtual 150, 3) := by decide +kernel
theorem dX5_told_140 : decode cX5_told 140 = .ok (.ireturn, 1) := by decide +kernel
theorem dX5_told_141 : decode cX5_told 141 = .ok (.aload_n 0, 1) := by decide +kernel
theorem dX5_told_142 : decode cX5_told 142 = .ok (.getfield 44, 3) := by decide +kernel
theorem dX5_told_145 : decode cX5_told 145 = .ok (.iload_n 1, 1) := by decide +kernel
theorem dX5_told_146 : decode cX5_told 146 = .ok (.invokevirtual 153, 3) := by decide +kernel
theorem dX5_told_149 : decode cX5_told 149 = .ok (.ireturn, 1) := by decide +kernel
theorem dX5_told_150 : decode cX5_told 150 = .ok (.bipush (-7), 2) := by decide +kernel
theorem dX5_told_152 : decode cX5_told 152 = .ok (.ireturn, 1) := by decide +kernel
set_option maxRecDepth 20000 in
theorem ggX5_regard_X0_hasWitness : GoodIn wsX5_regard wsX0_hasWitness := goodIn_r _ [6, 7, 8, 9, 10, 86, 87, 88, 89, 90, 91, 92, 93, 94, 95, 96, 97, 98, 99, 100] (by decide +kernel) (by decide +kernel)
set_option maxRecDepth 20000 in
theorem gX5_regard_X0_hasWitness : GoodIn wsX5_regard (wsV RX5 118 RX0 yX0_hasWitness wsX0_hasWitness) := goodIn_app (goodIn_of _ (by decide +kernel)) ggX5_regard_X0_hasWitness
set_option maxRecDepth 20000 in
theorem ggX5_regard_X5_isBelow : GoodIn wsX5_regard wsX5_isBelow := goodIn_r _ [10] (by decide +kernel) (by decide +kernel)
set_option maxRecDepth 20000 in
theorem gX5_regard_X5_isBelow : GoodIn wsX5_regard (va_wsS RX5 100 yX5_isBelow wsX5_isBelow) := goodIn_app (goodIn_of _ (by decide +kernel)) ggX5_regard_X5_isBelow
set_option maxRecDepth 20000 in
theorem ggX5_regard_X0_looks : GoodIn wsX5_regard wsX0_looks := goodIn_r _ [15, 16, 17, 18, 19, 20, 21, 22, 23, 24, 25, 26, 27, 28, 29, 5, 30, 31, 32, 33, 34, 35, 36, 37, 38, 39, 40, 41, 42, 43, 44, 45, 46, 47, 48, 49, 50, 51, 52, 53, 9, 54, 55, 56, 57, 58, 59, 60, 61, 62, 63, 64, 65, 66, 67, 68, 86, 87, 88, 89, 90, 91, 92, 93, 94, 95, 96, 97, 98, 99, 100, 101, 102, 103, 104] (by decide +kernel) (by decide +kernel)
set_option maxRecDepth 20000 in
theorem gX5_regard_X0_looks : GoodIn wsX5_regard (wsV RX5 156 RX0 yX0_looks wsX0_looks) := goodIn_app (goodIn_of _ (by decide +kernel)) ggX5_regard_X0_looks
set_option maxRecDepth 20000 in
theorem ggX5_regard_X0_stoops : GoodIn wsX5_regard wsX0_stoops := goodIn_r _ [72, 73, 74, 13, 14, 5, 15, 16, 17, 18, 19, 20, 21, 22, 23, 24, 25, 26, 27, 28, 29, 30, 31, 32, 33, 34, 35, 36, 37, 38, 39, 40, 41, 42, 43, 44, 45, 46, 47, 48, 49, 50, 51, 52, 53, 9, 54, 55, 56, 57, 58, 59, 60, 61, 62, 63, 64, 65, 66, 67, 68, 86, 87, 88, 89, 90, 91, 92, 93, 94, 95, 96, 97, 98, 99, 100, 101, 102, 103, 104] (by decide +kernel) (by decide +kernel)
set_option maxRecDepth 20000 in
theorem gX5_regard_X0_stoops : GoodIn wsX5_regard (wsV RX5 160 RX0 yX0_stoops wsX0_stoops) := goodIn_app (goodIn_of _ (by decide +kernel)) ggX5_regard_X0_stoops
theorem dX5_regard_0 : decode cX5_regard 0 = .ok (.aload_n 0, 1) := by decide +kernel
theorem dX5_regard_1 : decode cX5_regard 1 = .ok (.getfield 44, 3) := by decide +kernel
theorem dX5_regard_4 : decode cX5_regard 4 = .ok (.iload_n 1, 1) := by decide +kernel
theorem dX5_regard_5 : decode cX5_regard 5 = .ok (.invokevirtual 118, 3) := by decide +kernel
theorem dX5_regard_8 : decode cX5_regard 8 = .ok (.ifCond .eq 12, 3) := by decide +kernel
theorem dX5_regard_11 : decode cX5_regard 11 = .ok (.iload_n 2, 1) := by decide +kernel
theorem dX5_regard_12 : decode cX5_regard 12 = .ok (.bipush 6, 2) := by decide +kernel
theorem dX5_regard_14 : decode cX5_regard 14 = .ok (.invokestatic 100, 3) := by decide +kernel
theorem dX5_regard_17 : decode cX5_regard 17 = .ok (.ifCond .ne 6, 3) := by decide +kernel
theorem dX5_regard_20 : decode cX5_regard 20 = .ok (.bipush (-5), 2) := by decide +kernel
theorem dX5_regard_22 : decode cX5_regard 22 = .ok (.ireturn, 1) := by decide +kernel
theorem dX5_regard_23 : decode cX5_regard 23 = .ok (.iload_n 3, 1) := by decide +kernel
theorem dX5_regard_24 : decode cX5_regard 24 = .ok (.lookupswitch 56 #[(0, 28), (1, 38)], 28) := by decide +kernel
theorem dX5_regard_52 : decode cX5_regard 52 = .ok (.aload_n 0, 1) := by decide +kernel
theorem dX5_regard_53 : decode cX5_regard 53 = .ok (.getfield 44, 3) := by decide +kernel
theorem dX5_regard_56 : decode cX5_regard 56 = .ok (.iload_n 1, 1) := by decide +kernel
theorem dX5_regard_57 : decode cX5_regard 57 = .ok (.iload_n 2, 1) := by decide +kernel
theorem dX5_regard_58 : decode cX5_regard 58 = .ok (.invokevirtual 156, 3) := by decide +kernel
theorem dX5_regard_61 : decode cX5_regard 61 = .ok (.ireturn, 1) := by decide +kernel
theorem dX5_regard_62 : decode cX5_regard 62 = .ok (.aload_n 0, 1) := by decide +kernel
theorem dX5_regard_63 : decode cX5_regard 63 = .ok (.getfield 44, 3) := by decide +kernel
theorem dX5_regard_66 : decode cX5_regard 66 = .ok (.iload_n 2, 1) := by decide +kernel
theorem dX5_regard_67 : decode cX5_regard 67 = .ok (.iload_n 1, 1) := by decide +kernel
theorem dX5_regard_68 : decode cX5_regard 68 = .ok (.invokevirtual 160, 3) := by decide +kernel
theorem dX5_regard_71 : decode cX5_regard 71 = .ok (.ifCond .eq 7, 3) := by decide +kernel
theorem dX5_regard_74 : decode cX5_regard 74 = .ok (.iconst 1, 1) := by decide +kernel
theorem dX5_regard_75 : decode cX5_regard 75 = .ok (.goto 4, 3) := by decide +kernel
theorem dX5_regard_78 : decode cX5_regard 78 = .ok (.iconst 0, 1) := by decide +kernel
theorem dX5_regard_79 : decode cX5_regard 79 = .ok (.ireturn, 1) := by decide +kernel
theorem dX5_regard_80 : decode cX5_regard 80 = .ok (.bipush (-7), 2) := by decide +kernel
theorem dX5_regard_82 : decode cX5_regard 82 = .ok (.ireturn, 1) := by decide +kernel
set_option maxRecDepth 20000 in
theorem ggX5_linen_X0_lies : GoodIn wsX5_linen wsX0_lies := goodIn_r _ [6, 7, 8, 9, 10, 22, 23, 24, 25, 26, 27, 28, 29, 30, 31, 32, 33, 34, 35, 36] (by decide +kernel) (by decide +kernel)
set_option maxRecDepth 20000 in
theorem gX5_linen_X0_lies : GoodIn wsX5_linen (wsV RX5 163 RX0 yX0_lies wsX0_lies) := goodIn_app (goodIn_of _ (by decide +kernel)) ggX5_linen_X0_lies
theorem dX5_linen_0 : decode cX5_linen 0 = .ok (.aload_n 0, 1) := by decide +kernel
theorem dX5_linen_1 : decode cX5_linen 1 = .ok (.getfield 44, 3) := by decide +kernel
theorem dX5_linen_4 : decode cX5_linen 4 = .ok (.iload_n 1, 1) := by decide +kernel
theorem dX5_linen_5 : decode cX5_linen 5 = .ok (.invokevirtual 163, 3) := by decide +kernel
theorem dX5_linen_8 : decode cX5_linen 8 = .ok (.ifCond .ne 6, 3) := by decide +kernel
theorem dX5_linen_11 : decode cX5_linen 11 = .ok (.bipush (-6), 2) := by decide +kernel
theorem dX5_linen_13 : decode cX5_linen 13 = .ok (.ireturn, 1) := by decide +kernel
theorem dX5_linen_14 : decode cX5_linen 14 = .ok (.iload_n 2, 1) := by decide +kernel
theorem dX5_linen_15 : decode cX5_linen 15 = .ok (.tableswitch 55 0 2 #[25, 35, 45], 25) := by decide +kernel
theorem dX5_linen_40 : decode cX5_linen 40 = .ok (.aload_n 0, 1) := by decide +kernel
theorem dX5_linen_41 : decode cX5_linen 41 = .ok (.getfield 44, 3) := by decide +kernel
theorem dX5_linen_44 : decode cX5_linen 44 = .ok (.getfield 166, 3) := by decide +kernel
theorem dX5_linen_47 : decode cX5_linen 47 = .ok (.iload_n 1, 1) := by decide +kernel
theorem dX5_linen_48 : decode cX5_linen 48 = .ok (.iaload, 1) := by decide +kernel
theorem dX5_linen_49 : decode cX5_linen 49 = .ok (.ireturn, 1) := by decide +kernel
theorem dX5_linen_50 : decode cX5_linen 50 = .ok (.aload_n 0, 1) := by decide +kernel
theorem dX5_linen_51 : decode cX5_linen 51 = .ok (.getfield 44, 3) := by decide +kernel
theorem dX5_linen_54 : decode cX5_linen 54 = .ok (.getfield 169, 3) := by decide +kernel
theorem dX5_linen_57 : decode cX5_linen 57 = .ok (.iload_n 1, 1) := by decide +kernel
theorem dX5_linen_58 : decode cX5_linen 58 = .ok (.iaload, 1) := by decide +kernel
theorem dX5_linen_59 : decode cX5_linen 59 = .ok (.ireturn, 1) := by decide +kernel
theorem dX5_linen_60 : decode cX5_linen 60 = .ok (.aload_n 0, 1) := by decide +kernel
theorem dX5_linen_61 : decode cX5_linen 61 = .ok (.getfield 44, 3) := by decide +kernel
theorem dX5_linen_64 : decode cX5_linen 64 = .ok (.getfield 172, 3) := by decide +kernel
theorem dX5_linen_67 : decode cX5_linen 67 = .ok (.iload_n 1, 1) := by decide +kernel
theorem dX5_linen_68 : decode cX5_linen 68 = .ok (.iaload, 1) := by decide +kernel
theorem dX5_linen_69 : decode cX5_linen 69 = .ok (.ireturn, 1) := by decide +kernel
theorem dX5_linen_70 : decode cX5_linen 70 = .ok (.bipush (-7), 2) := by decide +kernel
theorem dX5_linen_72 : decode cX5_linen 72 = .ok (.ireturn, 1) := by decide +kernel
set_option maxRecDepth 20000 in
theorem ggX5_drop_X0_hasWitness : GoodIn wsX5_drop wsX0_hasWitness := goodIn_r _ [6, 7, 8, 9, 10, 98, 99, 100, 101, 102, 103, 104, 105, 106, 107, 108, 109, 110, 111, 112] (by decide +kernel) (by decide +kernel)
set_option maxRecDepth 20000 in
theorem gX5_drop_X0_hasWitness : GoodIn wsX5_drop (wsV RX5 118 RX0 yX0_hasWitness wsX0_hasWitness) := goodIn_app (goodIn_of _ (by decide +kernel)) ggX5_drop_X0_hasWitness
set_option maxRecDepth 20000 in
theorem ggX5_drop_X0_canLetFall : GoodIn wsX5_drop wsX0_canLetFall := goodIn_r _ [14, 15, 16, 17, 18, 5, 19, 20, 98, 99, 100, 101, 102, 103, 104, 105, 106, 107, 108, 109, 110, 111, 112] (by decide +kernel) (by decide +kernel)
set_option maxRecDepth 20000 in
theorem gX5_drop_X0_canLetFall : GoodIn wsX5_drop (wsV RX5 175 RX0 yX0_canLetFall wsX0_canLetFall) := goodIn_app (goodIn_of _ (by decide +kernel)) ggX5_drop_X0_canLetFall
set_option maxRecDepth 20000 in
theorem ggX5_drop_X0_letFall : GoodIn wsX5_drop wsX0_letFall := goodIn_r _ [24, 20, 25, 26, 27, 28, 29, 5, 30, 15, 31, 32, 33, 34, 35, 36, 37, 38, 39, 40, 41, 42, 43, 44, 45, 46, 47, 48, 49, 50, 51, 52, 53, 54, 55, 16, 17, 18, 19, 56, 57, 58, 59, 60, 61, 62, 9, 63, 64, 65, 66, 67, 68, 69, 70, 71, 72, 73, 74, 75, 76, 77, 78, 79, 80, 81, 82, 83, 84, 85, 86, 98, 99, 100, 101, 102, 103, 104, 105, 106, 107, 108, 109, 110, 111, 112, 113, 114, 115, 116] (by decide +kernel) (by decide +kernel)
set_option maxRecDepth 20000 in
theorem gX5_drop_X0_letFall : GoodIn wsX5_drop (wsV RX5 178 RX0 yX0_letFall wsX0_letFall) := goodIn_app (goodIn_of _ (by decide +kernel)) ggX5_drop_X0_letFall
theorem dX5_drop_0 : decode cX5_drop 0 = .ok (.aload_n 0, 1) := by decide +kernel
theorem dX5_drop_1 : decode cX5_drop 1 = .ok (.getfield 44, 3) := by decide +kernel
theorem dX5_drop_4 : decode cX5_drop 4 = .ok (.iload_n 1, 1) := by decide +kernel
theorem dX5_drop_5 : decode cX5_drop 5 = .ok (.invokevirtual 118, 3) := by decide +kernel
theorem dX5_drop_8 : decode cX5_drop 8 = .ok (.ifCond .ne 6, 3) := by decide +kernel
theorem dX5_drop_11 : decode cX5_drop 11 = .ok (.bipush (-5), 2) := by decide +kernel
theorem dX5_drop_13 : decode cX5_drop 13 = .ok (.ireturn, 1) := by decide +kernel
theorem dX5_drop_14 : decode cX5_drop 14 = .ok (.aload_n 0, 1) := by decide +kernel
theorem dX5_drop_15 : decode cX5_drop 15 = .ok (.getfield 44, 3) := by decide +kernel
theorem dX5_drop_18 : decode cX5_drop 18 = .ok (.getfield 129, 3) := by decide +kernel
theorem dX5_drop_21 : decode cX5_drop 21 = .ok (.iload_n 1, 1) := by decide +kernel
theorem dX5_drop_22 : decode cX5_drop 22 = .ok (.iaload, 1) := by decide +kernel
theorem dX5_drop_23 : decode cX5_drop 23 = .ok (.ifCond .ne 5, 3) := by decide +kernel
theorem dX5_drop_26 : decode cX5_drop 26 = .ok (.iconst (-1), 1) := by decide +kernel
theorem dX5_drop_27 : decode cX5_drop 27 = .ok (.ireturn, 1) := by decide +kernel
theorem dX5_drop_28 : decode cX5_drop 28 = .ok (.aload_n 0, 1) := by decide +kernel
theorem dX5_drop_29 : decode cX5_drop 29 = .ok (.getfield 44, 3) := by decide +kernel
theorem dX5_drop_32 : decode cX5_drop 32 = .ok (.iload_n 1, 1) := by decide +kernel
theorem dX5_drop_33 : decode cX5_drop 33 = .ok (.invokevirtual 175, 3) := by decide +kernel
theorem dX5_drop_36 : decode cX5_drop 36 = .ok (.ifCond .eq 14, 3) := by decide +kernel
theorem dX5_drop_39 : decode cX5_drop 39 = .ok (.aload_n 0, 1) := by decide +kernel
theorem dX5_drop_40 : decode cX5_drop 40 = .ok (.getfield 44, 3) := by decide +kernel
theorem dX5_drop_43 : decode cX5_drop 43 = .ok (.iload_n 1, 1) := by decide +kernel
theorem dX5_drop_44 : decode cX5_drop 44 = .ok (.invokevirtual 178, 3) := by decide +kernel
theorem dX5_drop_47 : decode cX5_drop 47 = .ok (.goto 5, 3) := by decide +kernel
theorem dX5_drop_50 : decode cX5_drop 50 = .ok (.bipush (-4), 2) := by decide +kernel
theorem dX5_drop_52 : decode cX5_drop 52 = .ok (.ireturn, 1) := by decide +kernel
set_option maxRecDepth 20000 in
theorem ggX5_hour_X0_passHours : GoodIn wsX5_hour wsX0_passHours := goodIn_r _ [6, 7, 8, 9, 10, 11, 12, 13, 14, 5, 15, 16, 17, 18, 19, 20, 21, 22, 23, 24, 25, 26, 27, 28, 29, 30, 31, 32, 33, 34, 35, 36, 37, 38, 39, 40, 41, 42, 43, 44, 45, 46, 47, 48, 49, 50, 51, 52, 53, 54, 55, 56, 57, 58, 59, 60, 61, 62, 63, 64, 65, 66, 67, 68, 69, 70, 71, 72, 73, 85, 86, 87, 88, 89, 90, 91, 92, 93, 94, 95, 96, 97, 98, 99, 100, 101, 102, 103] (by decide +kernel) (by decide +kernel)
set_option maxRecDepth 20000 in
theorem gX5_hour_X0_passHours : GoodIn wsX5_hour (wsV RX5 181 RX0 yX0_passHours wsX0_passHours) := goodIn_app (goodIn_of _ (by decide +kernel)) ggX5_hour_X0_passHours
theorem dX5_hour_0 : decode cX5_hour 0 = .ok (.aload_n 0, 1) := by decide +kernel
theorem dX5_hour_1 : decode cX5_hour 1 = .ok (.getfield 44, 3) := by decide +kernel
theorem dX5_hour_4 : decode cX5_hour 4 = .ok (.getfield 58, 3) := by decide +kernel
theorem dX5_hour_7 : decode cX5_hour 7 = .ok (.sipush 999, 3) := by decide +kernel
theorem dX5_hour_10 : decode cX5_hour 10 = .ok (.if_icmp .lt 8, 3) := by decide +kernel
theorem dX5_hour_13 : decode cX5_hour 13 = .ok (.bipush (-3), 2) := by decide +kernel
theorem dX5_hour_15 : decode cX5_hour 15 = .ok (.goto 11, 3) := by decide +kernel
theorem dX5_hour_18 : decode cX5_hour 18 = .ok (.aload_n 0, 1) := by decide +kernel
theorem dX5_hour_19 : decode cX5_hour 19 = .ok (.getfield 44, 3) := by decide +kernel
theorem dX5_hour_22 : decode cX5_hour 22 = .ok (.iconst 1, 1) := by decide +kernel
theorem dX5_hour_23 : decode cX5_hour 23 = .ok (.invokevirtual 181, 3) := by decide +kernel
theorem dX5_hour_26 : decode cX5_hour 26 = .ok (.ireturn, 1) := by decide +kernel
set_option maxRecDepth 20000 in
theorem ggX5_burn_X0_lies : GoodIn wsX5_burn wsX0_lies := goodIn_r _ [6, 7, 8, 9, 10, 22, 23, 24, 25, 26, 27, 28, 29, 30, 31, 32, 33, 34, 35, 36] (by decide +kernel) (by decide +kernel)
set_option maxRecDepth 20000 in
theorem gX5_burn_X0_lies : GoodIn wsX5_burn (wsV RX5 163 RX0 yX0_lies wsX0_lies) := goodIn_app (goodIn_of _ (by decide +kernel)) ggX5_burn_X0_lies
theorem dX5_burn_0 : decode cX5_burn 0 = .ok (.aload_n 0, 1) := by decide +kernel
theorem dX5_burn_1 : decode cX5_burn 1 = .ok (.getfield 44, 3) := by decide +kernel
theorem dX5_burn_4 : decode cX5_burn 4 = .ok (.iload_n 1, 1) := by decide +kernel
theorem dX5_burn_5 : decode cX5_burn 5 = .ok (.invokevirtual 163, 3) := by decide +kernel
theorem dX5_burn_8 : decode cX5_burn 8 = .ok (.ifCond .ne 6, 3) := by decide +kernel
theorem dX5_burn_11 : decode cX5_burn 11 = .ok (.bipush (-6), 2) := by decide +kernel
theorem dX5_burn_13 : decode cX5_burn 13 = .ok (.ireturn, 1) := by decide +kernel
theorem dX5_burn_14 : decode cX5_burn 14 = .ok (.aload_n 0, 1) := by decide +kernel
theorem dX5_burn_15 : decode cX5_burn 15 = .ok (.getfield 44, 3) := by decide +kernel
theorem dX5_burn_18 : decode cX5_burn 18 = .ok (.getfield 166, 3) := by decide +kernel
theorem dX5_burn_21 : decode cX5_burn 21 = .ok (.iload_n 1, 1) := by decide +kernel
theorem dX5_burn_22 : decode cX5_burn 22 = .ok (.iconst (-1), 1) := by decide +kernel
theorem dX5_burn_23 : decode cX5_burn 23 = .ok (.iastore, 1) := by decide +kernel
theorem dX5_burn_24 : decode cX5_burn 24 = .ok (.aload_n 0, 1) := by decide +kernel
theorem dX5_burn_25 : decode cX5_burn 25 = .ok (.getfield 44, 3) := by decide +kernel
theorem dX5_burn_28 : decode cX5_burn 28 = .ok (.getfield 169, 3) := by decide +kernel
theorem dX5_burn_31 : decode cX5_burn 31 = .ok (.iload_n 1, 1) := by decide +kernel
theorem dX5_burn_32 : decode cX5_burn 32 = .ok (.iaload, 1) := by decide +kernel
theorem dX5_burn_33 : decode cX5_burn 33 = .ok (.ireturn, 1) := by decide +kernel
set_option maxRecDepth 20000 in
theorem ggX5_run_X0_hasWitness : GoodIn wsX5_run wsX0_hasWitness := goodIn_r _ [7, 8, 9, 10, 11, 112, 113, 114, 115, 116, 117, 118, 119, 120, 121, 122, 123, 124, 125, 126] (by decide +kernel) (by decide +kernel)
set_option maxRecDepth 20000 in
theorem gX5_run_X0_hasWitness : GoodIn wsX5_run (wsV RX5 118 RX0 yX0_hasWitness wsX0_hasWitness) := goodIn_app (goodIn_of _ (by decide +kernel)) ggX5_run_X0_hasWitness
set_option maxRecDepth 20000 in
theorem ggX5_run_X5_isBelow : GoodIn wsX5_run wsX5_isBelow := goodIn_r _ [11] (by decide +kernel) (by decide +kernel)
set_option maxRecDepth 20000 in
theorem gX5_run_X5_isBelow : GoodIn wsX5_run (va_wsS RX5 100 yX5_isBelow wsX5_isBelow) := goodIn_app (goodIn_of _ (by decide +kernel)) ggX5_run_X5_isBelow
set_option maxRecDepth 20000 in
theorem ggX5_run_X0_become : GoodIn wsX5_run wsX0_become := goodIn_r _ [16, 17, 18, 19, 20, 21, 22, 23, 24, 25, 26, 27, 28, 29, 30, 31, 32, 8, 33, 112, 113, 114, 115, 116, 117, 118, 119, 120, 121, 122, 123, 124, 125, 126] (by decide +kernel) (by decide +kernel)
set_option maxRecDepth 20000 in
theorem gX5_run_X0_become : GoodIn wsX5_run (wsV RX5 184 RX0 yX0_become wsX0_become) := goodIn_app (goodIn_of _ (by decide +kernel)) ggX5_run_X0_become
set_option maxRecDepth 20000 in
theorem ggX5_run_X0_passHours : GoodIn wsX5_run wsX0_passHours := goodIn_r _ [37, 32, 28, 22, 29, 31, 38, 39, 40, 6, 41, 33, 23, 24, 42, 43, 44, 45, 46, 47, 48, 49, 50, 51, 52, 53, 26, 25, 54, 55, 56, 57, 58, 59, 60, 61, 62, 63, 64, 65, 66, 67, 68, 69, 70, 71, 10, 72, 73, 74, 75, 76, 77, 78, 79, 80, 81, 82, 83, 84, 85, 86, 87, 88, 89, 90, 30, 27, 91, 112, 113, 114, 115, 116, 117, 118, 119, 120, 121, 122, 123, 124, 125, 126, 127, 128, 129, 130] (by decide +kernel) (by decide +kernel)
set_option maxRecDepth 20000 in
theorem gX5_run_X0_passHours : GoodIn wsX5_run (wsV RX5 181 RX0 yX0_passHours wsX0_passHours) := goodIn_app (goodIn_of _ (by decide +kernel)) ggX5_run_X0_passHours
set_option maxRecDepth 20000 in
theorem ggX5_run_X0_verdict : GoodIn wsX5_run wsX0_verdict := goodIn_r _ [95, 31, 96, 97, 98, 6, 99, 17, 112, 113, 114, 115, 116, 117, 118, 119, 120, 121, 122, 123, 124, 125, 126] (by decide +kernel) (by decide +kernel)
set_option maxRecDepth 20000 in
theorem gX5_run_X0_verdict : GoodIn wsX5_run (wsV RX5 97 RX0 yX0_verdict wsX0_verdict) := goodIn_app (goodIn_of _ (by decide +kernel)) ggX5_run_X0_verdict
set_option maxRecDepth 20000 in
theorem ggX5_run_X0_lying : GoodIn wsX5_run wsX0_lying := goodIn_r _ [64, 28, 112, 113, 114, 115, 116, 117, 118, 119, 120, 121, 122, 123, 124, 125, 126] (by decide +kernel) (by decide +kernel)
set_option maxRecDepth 20000 in
theorem gX5_run_X0_lying : GoodIn wsX5_run (wsV RX5 61 RX0 yX0_lying wsX0_lying) := goodIn_app (goodIn_of _ (by decide +kernel)) ggX5_run_X0_lying
theorem dX5_run_0 : decode cX5_run 0 = .ok (.iload_n 2, 1) := by decide +kernel
theorem dX5_run_1 : decode cX5_run 1 = .ok (.bipush 10, 2) := by decide +kernel
theorem dX5_run_3 : decode cX5_run 3 = .ok (.if_icmp .lt 21, 3) := by decide +kernel
theorem dX5_run_6 : decode cX5_run 6 = .ok (.aload_n 0, 1) := by decide +kernel
theorem dX5_run_7 : decode cX5_run 7 = .ok (.getfield 44, 3) := by decide +kernel
theorem dX5_run_10 : decode cX5_run 10 = .ok (.iload_n 2, 1) := by decide +kernel
theorem dX5_run_11 : decode cX5_run 11 = .ok (.bipush 10, 2) := by decide +kernel
theorem dX5_run_13 : decode cX5_run 13 = .ok (.isub, 1) := by decide +kernel
theorem dX5_run_14 : decode cX5_run 14 = .ok (.invokevirtual 118, 3) := by decide +kernel
theorem dX5_run_17 : decode cX5_run 17 = .ok (.ifCond .eq 7, 3) := by decide +kernel
theorem dX5_run_20 : decode cX5_run 20 = .ok (.iconst 1, 1) := by decide +kernel
theorem dX5_run_21 : decode cX5_run 21 = .ok (.goto 4, 3) := by decide +kernel
theorem dX5_run_24 : decode cX5_run 24 = .ok (.iconst 0, 1) := by decide +kernel
theorem dX5_run_25 : decode cX5_run 25 = .ok (.istore_n 3, 1) := by decide +kernel
theorem dX5_run_26 : decode cX5_run 26 = .ok (.iload_n 1, 1) := by decide +kernel
theorem dX5_run_27 : decode cX5_run 27 = .ok (.bipush 41, 2) := by decide +kernel
theorem dX5_run_29 : decode cX5_run 29 = .ok (.invokestatic 100, 3) := by decide +kernel
theorem dX5_run_32 : decode cX5_run 32 = .ok (.ifCond .eq 15, 3) := by decide +kernel
theorem dX5_run_35 : decode cX5_run 35 = .ok (.iload_n 2, 1) := by decide +kernel
theorem dX5_run_36 : decode cX5_run 36 = .ok (.iconst 3, 1) := by decide +kernel
theorem dX5_run_37 : decode cX5_run 37 = .ok (.invokestatic 100, 3) := by decide +kernel
theorem dX5_run_40 : decode cX5_run 40 = .ok (.ifCond .ne 11, 3) := by decide +kernel
theorem dX5_run_43 : decode cX5_run 43 = .ok (.iload_n 3, 1) := by decide +kernel
theorem dX5_run_44 : decode cX5_run 44 = .ok (.ifCond .ne 7, 3) := by decide +kernel
theorem dX5_run_47 : decode cX5_run 47 = .ok (.sipush (-5000), 3) := by decide +kernel
theorem dX5_run_50 : decode cX5_run 50 = .ok (.ireturn, 1) := by decide +kernel
theorem dX5_run_51 : decode cX5_run 51 = .ok (.aload_n 0, 1) := by decide +kernel
theorem dX5_run_52 : decode cX5_run 52 = .ok (.getfield 51, 3) := by decide +kernel
theorem dX5_run_55 : decode cX5_run 55 = .ok (.aload_n 0, 1) := by decide +kernel
theorem dX5_run_56 : decode cX5_run 56 = .ok (.getfield 44, 3) := by decide +kernel
theorem dX5_run_59 : decode cX5_run 59 = .ok (.invokevirtual 184, 3) := by decide +kernel
theorem dX5_run_62 : decode cX5_run 62 = .ok (.aload_n 0, 1) := by decide +kernel
theorem dX5_run_63 : decode cX5_run 63 = .ok (.getfield 51, 3) := by decide +kernel
theorem dX5_run_66 : decode cX5_run 66 = .ok (.iload_n 1, 1) := by decide +kernel
theorem dX5_run_67 : decode cX5_run 67 = .ok (.invokevirtual 181, 3) := by decide +kernel
theorem dX5_run_70 : decode cX5_run 70 = .ok (.pop, 1) := by decide +kernel
theorem dX5_run_71 : decode cX5_run 71 = .ok (.iload_n 2, 1) := by decide +kernel
theorem dX5_run_72 : decode cX5_run 72 = .ok (.tableswitch 52 0 2 #[28, 36, 44], 28) := by decide +kernel
theorem dX5_run_100 : decode cX5_run 100 = .ok (.aload_n 0, 1) := by decide +kernel
theorem dX5_run_101 : decode cX5_run 101 = .ok (.getfield 51, 3) := by decide +kernel
theorem dX5_run_104 : decode cX5_run 104 = .ok (.getfield 94, 3) := by decide +kernel
theorem dX5_run_107 : decode cX5_run 107 = .ok (.ireturn, 1) := by decide +kernel
theorem dX5_run_108 : decode cX5_run 108 = .ok (.aload_n 0, 1) := by decide +kernel
theorem dX5_run_109 : decode cX5_run 109 = .ok (.getfield 51, 3) := by decide +kernel
theorem dX5_run_112 : decode cX5_run 112 = .ok (.invokevirtual 97, 3) := by decide +kernel
theorem dX5_run_115 : decode cX5_run 115 = .ok (.ireturn, 1) := by decide +kernel
theorem dX5_run_116 : decode cX5_run 116 = .ok (.aload_n 0, 1) := by decide +kernel
theorem dX5_run_117 : decode cX5_run 117 = .ok (.getfield 51, 3) := by decide +kernel
theorem dX5_run_120 : decode cX5_run 120 = .ok (.invokevirtual 61, 3) := by decide +kernel
theorem dX5_run_123 : decode cX5_run 123 = .ok (.ireturn, 1) := by decide +kernel
theorem dX5_run_124 : decode cX5_run 124 = .ok (.iload_n 3, 1) := by decide +kernel
theorem dX5_run_125 : decode cX5_run 125 = .ok (.ifCond .eq 18, 3) := by decide +kernel
theorem dX5_run_128 : decode cX5_run 128 = .ok (.aload_n 0, 1) := by decide +kernel
theorem dX5_run_129 : decode cX5_run 129 = .ok (.getfield 51, 3) := by decide +kernel
theorem dX5_run_132 : decode cX5_run 132 = .ok (.getfield 135, 3) := by decide +kernel
theorem dX5_run_135 : decode cX5_run 135 = .ok (.iload_n 2, 1) := by decide +kernel
theorem dX5_run_136 : decode cX5_run 136 = .ok (.bipush 10, 2) := by decide +kernel
theorem dX5_run_138 : decode cX5_run 138 = .ok (.isub, 1) := by decide +kernel
theorem dX5_run_139 : decode cX5_run 139 = .ok (.iaload, 1) := by decide +kernel
theorem dX5_run_140 : decode cX5_run 140 = .ok (.goto 6, 3) := by decide +kernel
theorem dX5_run_143 : decode cX5_run 143 = .ok (.sipush (-5000), 3) := by decide +kernel
theorem dX5_run_146 : decode cX5_run 146 = .ok (.ireturn, 1) := by decide +kernel
set_option maxRecDepth 20000 in
theorem ggX5_when_X5_isBelow : GoodIn wsX5_when wsX5_isBelow := goodIn_r _ [6] (by decide +kernel) (by decide +kernel)
set_option maxRecDepth 20000 in
theorem gX5_when_X5_isBelow : GoodIn wsX5_when (va_wsS RX5 100 yX5_isBelow wsX5_isBelow) := goodIn_app (goodIn_of _ (by decide +kernel)) ggX5_when_X5_isBelow
set_option maxRecDepth 20000 in
theorem ggX5_when_X0_become : GoodIn wsX5_when wsX0_become := goodIn_r _ [11, 12, 13, 14, 15, 16, 17, 18, 19, 20, 21, 22, 23, 24, 25, 26, 27, 28, 29, 104, 105, 106, 107, 108, 109, 110, 111, 112, 113, 114, 115, 116, 117, 118] (by decide +kernel) (by decide +kernel)
set_option maxRecDepth 20000 in
theorem gX5_when_X0_become : GoodIn wsX5_when (wsV RX5 184 RX0 yX0_become wsX0_become) := goodIn_app (goodIn_of _ (by decide +kernel)) ggX5_when_X0_become
set_option maxRecDepth 20000 in
theorem ggX5_when_X0_lying : GoodIn wsX5_when wsX0_lying := goodIn_r _ [33, 23, 104, 105, 106, 107, 108, 109, 110, 111, 112, 113, 114, 115, 116, 117, 118] (by decide +kernel) (by decide +kernel)
set_option maxRecDepth 20000 in
theorem gX5_when_X0_lying : GoodIn wsX5_when (wsV RX5 61 RX0 yX0_lying wsX0_lying) := goodIn_app (goodIn_of _ (by decide +kernel)) ggX5_when_X0_lying
set_option maxRecDepth 20000 in
theorem ggX5_when_X0_isAdmitted : GoodIn wsX5_when wsX0_isAdmitted := goodIn_r _ [37, 26, 104, 105, 106, 107, 108, 109, 110, 111, 112, 113, 114, 115, 116, 117, 118] (by decide +kernel) (by decide +kernel)
set_option maxRecDepth 20000 in
theorem gX5_when_X0_isAdmitted : GoodIn wsX5_when (wsV RX5 188 RX0 yX0_isAdmitted wsX0_isAdmitted) := goodIn_app (goodIn_of _ (by decide +kernel)) ggX5_when_X0_isAdmitted
set_option maxRecDepth 20000 in
theorem ggX5_when_X0_passHours : GoodIn wsX5_when wsX0_passHours := goodIn_r _ [41, 27, 23, 17, 24, 26, 42, 43, 44, 10, 45, 29, 18, 19, 46, 47, 48, 49, 50, 51, 52, 53, 54, 55, 56, 57, 21, 20, 58, 59, 60, 61, 62, 63, 64, 65, 31, 32, 33, 66, 67, 68, 69, 70, 71, 72, 5, 73, 74, 75, 76, 77, 78, 79, 80, 81, 82, 83, 84, 85, 86, 87, 88, 89, 90, 91, 25, 22, 92, 104, 105, 106, 107, 108, 109, 110, 111, 112, 113, 114, 115, 116, 117, 118, 119, 120, 121, 122] (by decide +kernel) (by decide +kernel)
set_option maxRecDepth 20000 in
theorem gX5_when_X0_passHours : GoodIn wsX5_when (wsV RX5 181 RX0 yX0_passHours wsX0_passHours) := goodIn_app (goodIn_of _ (by decide +kernel)) ggX5_when_X0_passHours
theorem dX5_when_0 : decode cX5_when 0 = .ok (.iload_n 1, 1) := by decide +kernel
theorem dX5_when_1 : decode cX5_when 1 = .ok (.iconst (-1), 1) := by decide +kernel
theorem dX5_when_2 : decode cX5_when 2 = .ok (.if_icmp .eq 15, 3) := by decide +kernel
theorem dX5_when_5 : decode cX5_when 5 = .ok (.iload_n 1, 1) := by decide +kernel
theorem dX5_when_6 : decode cX5_when 6 = .ok (.bipush 10, 2) := by decide +kernel
theorem dX5_when_8 : decode cX5_when 8 = .ok (.invokestatic 100, 3) := by decide +kernel
theorem dX5_when_11 : decode cX5_when 11 = .ok (.ifCond .ne 6, 3) := by decide +kernel
theorem dX5_when_14 : decode cX5_when 14 = .ok (.bipush (-7), 2) := by decide +kernel
theorem dX5_when_16 : decode cX5_when 16 = .ok (.ireturn, 1) := by decide +kernel
theorem dX5_when_17 : decode cX5_when 17 = .ok (.aload_n 0, 1) := by decide +kernel
theorem dX5_when_18 : decode cX5_when 18 = .ok (.getfield 51, 3) := by decide +kernel
theorem dX5_when_21 : decode cX5_when 21 = .ok (.aload_n 0, 1) := by decide +kernel
theorem dX5_when_22 : decode cX5_when 22 = .ok (.getfield 44, 3) := by decide +kernel
theorem dX5_when_25 : decode cX5_when 25 = .ok (.invokevirtual 184, 3) := by decide +kernel
theorem dX5_when_28 : decode cX5_when 28 = .ok (.iconst 0, 1) := by decide +kernel
theorem dX5_when_29 : decode cX5_when 29 = .ok (.istore_n 2, 1) := by decide +kernel
theorem dX5_when_30 : decode cX5_when 30 = .ok (.iload_n 2, 1) := by decide +kernel
theorem dX5_when_31 : decode cX5_when 31 = .ok (.bipush 60, 2) := by decide +kernel
theorem dX5_when_33 : decode cX5_when 33 = .ok (.if_icmp .gt 49, 3) := by decide +kernel
theorem dX5_when_36 : decode cX5_when 36 = .ok (.iload_n 1, 1) := by decide +kernel
theorem dX5_when_37 : decode cX5_when 37 = .ok (.iconst (-1), 1) := by decide +kernel
theorem dX5_when_38 : decode cX5_when 38 = .ok (.if_icmp .ne 16, 3) := by decide +kernel
theorem dX5_when_41 : decode cX5_when 41 = .ok (.aload_n 0, 1) := by decide +kernel
theorem dX5_when_42 : decode cX5_when 42 = .ok (.getfield 51, 3) := by decide +kernel
theorem dX5_when_45 : decode cX5_when 45 = .ok (.invokevirtual 61, 3) := by decide +kernel
theorem dX5_when_48 : decode cX5_when 48 = .ok (.ifCond .ne 19, 3) := by decide +kernel
theorem dX5_when_51 : decode cX5_when 51 = .ok (.goto 14, 3) := by decide +kernel
theorem dX5_when_54 : decode cX5_when 54 = .ok (.aload_n 0, 1) := by decide +kernel
theorem dX5_when_55 : decode cX5_when 55 = .ok (.getfield 51, 3) := by decide +kernel
theorem dX5_when_58 : decode cX5_when 58 = .ok (.iload_n 1, 1) := by decide +kernel
theorem dX5_when_59 : decode cX5_when 59 = .ok (.invokevirtual 188, 3) := by decide +kernel
theorem dX5_when_62 : decode cX5_when 62 = .ok (.ifCond .eq 5, 3) := by decide +kernel
theorem dX5_when_65 : decode cX5_when 65 = .ok (.iload_n 2, 1) := by decide +kernel
theorem dX5_when_66 : decode cX5_when 66 = .ok (.ireturn, 1) := by decide +kernel
theorem dX5_when_67 : decode cX5_when 67 = .ok (.aload_n 0, 1) := by decide +kernel
theorem dX5_when_68 : decode cX5_when 68 = .ok (.getfield 51, 3) := by decide +kernel
theorem dX5_when_71 : decode cX5_when 71 = .ok (.iconst 1, 1) := by decide +kernel
theorem dX5_when_72 : decode cX5_when 72 = .ok (.invokevirtual 181, 3) := by decide +kernel
theorem dX5_when_75 : decode cX5_when 75 = .ok (.pop, 1) := by decide +kernel
theorem dX5_when_76 : decode cX5_when 76 = .ok (.iinc 2 1, 3) := by decide +kernel
theorem dX5_when_79 : decode cX5_when 79 = .ok (.goto (-49), 3) := by decide +kernel
theorem dX5_when_82 : decode cX5_when 82 = .ok (.iconst (-1), 1) := by decide +kernel
theorem dX5_when_83 : decode cX5_when 83 = .ok (.ireturn, 1) := by decide +kernel
set_option maxRecDepth 20000 in
theorem ggX5_fate_X0_lies : GoodIn wsX5_fate wsX0_lies := goodIn_r _ [7, 8, 9, 10, 11, 103, 104, 105, 106, 107, 108, 109, 110, 111, 112, 113, 114, 115, 116, 117] (by decide +kernel) (by decide +kernel)
set_option maxRecDepth 20000 in
theorem gX5_fate_X0_lies : GoodIn wsX5_fate (wsV RX5 163 RX0 yX0_lies wsX0_lies) := goodIn_app (goodIn_of _ (by decide +kernel)) ggX5_fate_X0_lies
set_option maxRecDepth 20000 in
theorem ggX5_fate_X5_isBelow : GoodIn wsX5_fate wsX5_isBelow := goodIn_r _ [11] (by decide +kernel) (by decide +kernel)
set_option maxRecDepth 20000 in
theorem gX5_fate_X5_isBelow : GoodIn wsX5_fate (va_wsS RX5 100 yX5_isBelow wsX5_isBelow) := goodIn_app (goodIn_of _ (by decide +kernel)) ggX5_fate_X5_isBelow
set_option maxRecDepth 20000 in
theorem ggX5_fate_X0_become : GoodIn wsX5_fate wsX0_become := goodIn_r _ [16, 17, 18, 19, 20, 21, 22, 23, 24, 25, 26, 27, 8, 28, 29, 30, 31, 32, 33, 103, 104, 105, 106, 107, 108, 109, 110, 111, 112, 113, 114, 115, 116, 117] (by decide +kernel) (by decide +kernel)
set_option maxRecDepth 20000 in
theorem gX5_fate_X0_become : GoodIn wsX5_fate (wsV RX5 184 RX0 yX0_become wsX0_become) := goodIn_app (goodIn_of _ (by decide +kernel)) ggX5_fate_X0_become
set_option maxRecDepth 20000 in
theorem ggX5_fate_X0_passHours : GoodIn wsX5_fate wsX0_passHours := goodIn_r _ [37, 31, 8, 22, 28, 30, 38, 39, 40, 6, 41, 33, 23, 24, 42, 43, 44, 45, 46, 47, 48, 49, 50, 51, 52, 53, 26, 25, 54, 55, 56, 57, 58, 59, 60, 61, 62, 63, 64, 65, 66, 67, 68, 69, 70, 71, 10, 72, 73, 74, 75, 76, 77, 78, 79, 80, 81, 82, 83, 84, 85, 86, 87, 88, 89, 90, 29, 27, 91, 103, 104, 105, 106, 107, 108, 109, 110, 111, 112, 113, 114, 115, 116, 117, 118, 119, 120, 121] (by decide +kernel) (by decide +kernel)
set_option maxRecDepth 20000 in
theorem gX5_fate_X0_passHours : GoodIn wsX5_fate (wsV RX5 181 RX0 yX0_passHours wsX0_passHours) := goodIn_app (goodIn_of _ (by decide +kernel)) ggX5_fate_X0_passHours
theorem dX5_fate_0 : decode cX5_fate 0 = .ok (.aload_n 0, 1) := by decide +kernel
theorem dX5_fate_1 : decode cX5_fate 1 = .ok (.getfield 44, 3) := by decide +kernel
theorem dX5_fate_4 : decode cX5_fate 4 = .ok (.iload_n 1, 1) := by decide +kernel
theorem dX5_fate_5 : decode cX5_fate 5 = .ok (.invokevirtual 163, 3) := by decide +kernel
theorem dX5_fate_8 : decode cX5_fate 8 = .ok (.ifCond .ne 6, 3) := by decide +kernel
theorem dX5_fate_11 : decode cX5_fate 11 = .ok (.bipush (-6), 2) := by decide +kernel
theorem dX5_fate_13 : decode cX5_fate 13 = .ok (.ireturn, 1) := by decide +kernel
theorem dX5_fate_14 : decode cX5_fate 14 = .ok (.iload_n 2, 1) := by decide +kernel
theorem dX5_fate_15 : decode cX5_fate 15 = .ok (.iconst 2, 1) := by decide +kernel
theorem dX5_fate_16 : decode cX5_fate 16 = .ok (.invokestatic 100, 3) := by decide +kernel
theorem dX5_fate_19 : decode cX5_fate 19 = .ok (.ifCond .ne 6, 3) := by decide +kernel
theorem dX5_fate_22 : decode cX5_fate 22 = .ok (.bipush (-7), 2) := by decide +kernel
theorem dX5_fate_24 : decode cX5_fate 24 = .ok (.ireturn, 1) := by decide +kernel
theorem dX5_fate_25 : decode cX5_fate 25 = .ok (.aload_n 0, 1) := by decide +kernel
theorem dX5_fate_26 : decode cX5_fate 26 = .ok (.getfield 51, 3) := by decide +kernel
theorem dX5_fate_29 : decode cX5_fate 29 = .ok (.aload_n 0, 1) := by decide +kernel
theorem dX5_fate_30 : decode cX5_fate 30 = .ok (.getfield 44, 3) := by decide +kernel
theorem dX5_fate_33 : decode cX5_fate 33 = .ok (.invokevirtual 184, 3) := by decide +kernel
theorem dX5_fate_36 : decode cX5_fate 36 = .ok (.iconst 0, 1) := by decide +kernel
theorem dX5_fate_37 : decode cX5_fate 37 = .ok (.istore_n 3, 1) := by decide +kernel
theorem dX5_fate_38 : decode cX5_fate 38 = .ok (.iload_n 3, 1) := by decide +kernel
theorem dX5_fate_39 : decode cX5_fate 39 = .ok (.bipush 99, 2) := by decide +kernel
theorem dX5_fate_41 : decode cX5_fate 41 = .ok (.if_icmp .ge 29, 3) := by decide +kernel
theorem dX5_fate_44 : decode cX5_fate 44 = .ok (.aload_n 0, 1) := by decide +kernel
theorem dX5_fate_45 : decode cX5_fate 45 = .ok (.getfield 51, 3) := by decide +kernel
theorem dX5_fate_48 : decode cX5_fate 48 = .ok (.iload_n 1, 1) := by decide +kernel
theorem dX5_fate_49 : decode cX5_fate 49 = .ok (.invokevirtual 163, 3) := by decide +kernel
theorem dX5_fate_52 : decode cX5_fate 52 = .ok (.ifCond .eq 18, 3) := by decide +kernel
theorem dX5_fate_55 : decode cX5_fate 55 = .ok (.aload_n 0, 1) := by decide +kernel
theorem dX5_fate_56 : decode cX5_fate 56 = .ok (.getfield 51, 3) := by decide +kernel
theorem dX5_fate_59 : decode cX5_fate 59 = .ok (.iconst 1, 1) := by decide +kernel
theorem dX5_fate_60 : decode cX5_fate 60 = .ok (.invokevirtual 181, 3) := by decide +kernel
theorem dX5_fate_63 : decode cX5_fate 63 = .ok (.pop, 1) := by decide +kernel
theorem dX5_fate_64 : decode cX5_fate 64 = .ok (.iinc 3 1, 3) := by decide +kernel
theorem dX5_fate_67 : decode cX5_fate 67 = .ok (.goto (-29), 3) := by decide +kernel
theorem dX5_fate_70 : decode cX5_fate 70 = .ok (.iload_n 2, 1) := by decide +kernel
theorem dX5_fate_71 : decode cX5_fate 71 = .ok (.iconst 1, 1) := by decide +kernel
theorem dX5_fate_72 : decode cX5_fate 72 = .ok (.if_icmp .ne 5, 3) := by decide +kernel
theorem dX5_fate_75 : decode cX5_fate 75 = .ok (.iload_n 3, 1) := by decide +kernel
theorem dX5_fate_76 : decode cX5_fate 76 = .ok (.ireturn, 1) := by decide +kernel
theorem dX5_fate_77 : decode cX5_fate 77 = .ok (.aload_n 0, 1) := by decide +kernel
theorem dX5_fate_78 : decode cX5_fate 78 = .ok (.getfield 51, 3) := by decide +kernel
theorem dX5_fate_81 : decode cX5_fate 81 = .ok (.getfield 172, 3) := by decide +kernel
theorem dX5_fate_84 : decode cX5_fate 84 = .ok (.iload_n 1, 1) := by decide +kernel
theorem dX5_fate_85 : decode cX5_fate 85 = .ok (.iaload, 1) := by decide +kernel
theorem dX5_fate_86 : decode cX5_fate 86 = .ok (.ifCond .ne 7, 3) := by decide +kernel
theorem dX5_fate_89 : decode cX5_fate 89 = .ok (.iconst (-1), 1) := by decide +kernel
theorem dX5_fate_90 : decode cX5_fate 90 = .ok (.goto 15, 3) := by decide +kernel
theorem dX5_fate_93 : decode cX5_fate 93 = .ok (.aload_n 0, 1) := by decide +kernel
theorem dX5_fate_94 : decode cX5_fate 94 = .ok (.getfield 51, 3) := by decide +kernel
theorem dX5_fate_97 : decode cX5_fate 97 = .ok (.getfield 58, 3) := by decide +kernel
theorem dX5_fate_100 : decode cX5_fate 100 = .ok (.iconst 1, 1) := by decide +kernel
theorem dX5_fate_101 : decode cX5_fate 101 = .ok (.isub, 1) := by decide +kernel
theorem dX5_fate_102 : decode cX5_fate 102 = .ok (.bipush 6, 2) := by decide +kernel
theorem dX5_fate_104 : decode cX5_fate 104 = .ok (.irem, 1) := by decide +kernel
theorem dX5_fate_105 : decode cX5_fate 105 = .ok (.ireturn, 1) := by decide +kernel
set_option maxRecDepth 20000 in
theorem ggX5_advise_X5_isBelow : GoodIn wsX5_advise wsX5_isBelow := goodIn_r _ [10] (by decide +kernel) (by decide +kernel)
set_option maxRecDepth 20000 in
theorem gX5_advise_X5_isBelow : GoodIn wsX5_advise (va_wsS RX5 100 yX5_isBelow wsX5_isBelow) := goodIn_app (goodIn_of _ (by decide +kernel)) ggX5_advise_X5_isBelow
set_option maxRecDepth 20000 in
theorem ggX5_advise_X0_become : GoodIn wsX5_advise wsX0_become := goodIn_r _ [15, 16, 17, 18, 19, 20, 21, 22, 23, 24, 25, 26, 27, 28, 29, 30, 31, 32, 33, 134, 135, 136, 137, 138, 139, 140, 141, 142, 143, 144, 145, 146, 147, 148] (by decide +kernel) (by decide +kernel)
set_option maxRecDepth 20000 in
theorem gX5_advise_X0_become : GoodIn wsX5_advise (wsV RX5 184 RX0 yX0_become wsX0_become) := goodIn_app (goodIn_of _ (by decide +kernel)) ggX5_advise_X0_become
set_option maxRecDepth 20000 in
theorem ggX5_advise_X0_passHours : GoodIn wsX5_advise wsX0_passHours := goodIn_r _ [37, 31, 27, 21, 28, 30, 38, 39, 40, 14, 41, 33, 22, 23, 42, 43, 44, 45, 46, 47, 48, 49, 50, 51, 52, 53, 25, 24, 54, 55, 56, 57, 58, 59, 60, 61, 62, 63, 64, 65, 66, 67, 68, 69, 70, 71, 9, 72, 73, 74, 5, 75, 3, 4, 6, 76, 77, 78, 79, 80, 81, 82, 83, 84, 85, 86, 29, 26, 87, 134, 135, 136, 137, 138, 139, 140, 141, 142, 143, 144, 145, 146, 147, 148, 149, 150, 151, 152] (by decide +kernel) (by decide +kernel)
set_option maxRecDepth 20000 in
theorem gX5_advise_X0_passHours : GoodIn wsX5_advise (wsV RX5 181 RX0 yX0_passHours wsX0_passHours) := goodIn_app (goodIn_of _ (by decide +kernel)) ggX5_advise_X0_passHours
set_option maxRecDepth 20000 in
theorem ggX5_advise_X0_verdict : GoodIn wsX5_advise wsX0_verdict := goodIn_r _ [91, 30, 92, 93, 94, 14, 95, 16, 134, 135, 136, 137, 138, 139, 140, 141, 142, 143, 144, 145, 146, 147, 148] (by decide +kernel) (by decide +kernel)
set_option maxRecDepth 20000 in
theorem gX5_advise_X0_verdict : GoodIn wsX5_advise (wsV RX5 97 RX0 yX0_verdict wsX0_verdict) := goodIn_app (goodIn_of _ (by decide +kernel)) ggX5_advise_X0_verdict
set_option maxRecDepth 20000 in
theorem ggX5_advise_X0_canLetFall : GoodIn wsX5_advise wsX0_canLetFall := goodIn_r _ [99, 24, 61, 62, 63, 14, 64, 27, 134, 135, 136, 137, 138, 139, 140, 141, 142, 143, 144, 145, 146, 147, 148] (by decide +kernel) (by decide +kernel)
set_option maxRecDepth 20000 in
theorem gX5_advise_X0_canLetFall : GoodIn wsX5_advise (wsV RX5 175 RX0 yX0_canLetFall wsX0_canLetFall) := goodIn_app (goodIn_of _ (by decide +kernel)) ggX5_advise_X0_canLetFall
set_option maxRecDepth 20000 in
theorem ggX5_advise_X0_letFall : GoodIn wsX5_advise wsX0_letFall := goodIn_r _ [103, 27, 28, 29, 104, 105, 106, 14, 107, 24, 22, 33, 23, 54, 55, 56, 57, 58, 59, 60, 42, 43, 44, 45, 46, 47, 48, 49, 50, 51, 52, 53, 25, 31, 30, 61, 62, 63, 64, 65, 66, 67, 68, 69, 70, 71, 9, 72, 73, 74, 5, 75, 3, 4, 6, 108, 109, 78, 110, 111, 112, 113, 114, 115, 116, 117, 118, 119, 120, 121, 122, 134, 135, 136, 137, 138, 139, 140, 141, 142, 143, 144, 145, 146, 147, 148, 149, 150, 151, 152] (by decide +kernel) (by decide +kernel)
set_option maxRecDepth 20000 in
theorem gX5_advise_X0_letFall : GoodIn wsX5_advise (wsV RX5 178 RX0 yX0_letFall wsX0_letFall) := goodIn_app (goodIn_of _ (by decide +kernel)) ggX5_advise_X0_letFall
theorem dX5_advise_0 : decode cX5_advise 0 = .ok (.iload_n 1, 1) := by decide +kernel
theorem dX5_advise_1 : decode cX5_advise 1 = .ok (.bipush 41, 2) := by decide +kernel
theorem dX5_advise_3 : decode cX5_advise 3 = .ok (.invokestatic 100, 3) := by decide +kernel
theorem dX5_advise_6 : decode cX5_advise 6 = .ok (.ifCond .eq 11, 3) := by decide +kernel
theorem dX5_advise_9 : decode cX5_advise 9 = .ok (.iload_n 2, 1) := by decide +kernel
theorem dX5_advise_10 : decode cX5_advise 10 = .ok (.iconst 2, 1) := by decide +kernel
theorem dX5_advise_11 : decode cX5_advise 11 = .ok (.invokestatic 100, 3) := by decide +kernel
theorem dX5_advise_14 : decode cX5_advise 14 = .ok (.ifCond .ne 7, 3) := by decide +kernel
theorem dX5_advise_17 : decode cX5_advise 17 = .ok (.sipush (-5000), 3) := by decide +kernel
theorem dX5_advise_20 : decode cX5_advise 20 = .ok (.ireturn, 1) := by decide +kernel
theorem dX5_advise_21 : decode cX5_advise 21 = .ok (.aload_n 0, 1) := by decide +kernel
theorem dX5_advise_22 : decode cX5_advise 22 = .ok (.getfield 51, 3) := by decide +kernel
theorem dX5_advise_25 : decode cX5_advise 25 = .ok (.aload_n 0, 1) := by decide +kernel
theorem dX5_advise_26 : decode cX5_advise 26 = .ok (.getfield 44, 3) := by decide +kernel
theorem dX5_advise_29 : decode cX5_advise 29 = .ok (.invokevirtual 184, 3) := by decide +kernel
theorem dX5_advise_32 : decode cX5_advise 32 = .ok (.aload_n 0, 1) := by decide +kernel
theorem dX5_advise_33 : decode cX5_advise 33 = .ok (.getfield 51, 3) := by decide +kernel
theorem dX5_advise_36 : decode cX5_advise 36 = .ok (.iload_n 1, 1) := by decide +kernel
theorem dX5_advise_37 : decode cX5_advise 37 = .ok (.invokevirtual 181, 3) := by decide +kernel
theorem dX5_advise_40 : decode cX5_advise 40 = .ok (.pop, 1) := by decide +kernel
theorem dX5_advise_41 : decode cX5_advise 41 = .ok (.iconst (-1), 1) := by decide +kernel
theorem dX5_advise_42 : decode cX5_advise 42 = .ok (.istore_n 3, 1) := by decide +kernel
theorem dX5_advise_43 : decode cX5_advise 43 = .ok (.aload_n 0, 1) := by decide +kernel
theorem dX5_advise_44 : decode cX5_advise 44 = .ok (.getfield 51, 3) := by decide +kernel
theorem dX5_advise_47 : decode cX5_advise 47 = .ok (.invokevirtual 97, 3) := by decide +kernel
theorem dX5_advise_50 : decode cX5_advise 50 = .ok (.istore 4, 2) := by decide +kernel
theorem dX5_advise_52 : decode cX5_advise 52 = .ok (.iconst 0, 1) := by decide +kernel
theorem dX5_advise_53 : decode cX5_advise 53 = .ok (.istore 5, 2) := by decide +kernel
theorem dX5_advise_55 : decode cX5_advise 55 = .ok (.iload 5, 2) := by decide +kernel
theorem dX5_advise_57 : decode cX5_advise 57 = .ok (.aload_n 0, 1) := by decide +kernel
theorem dX5_advise_58 : decode cX5_advise 58 = .ok (.getfield 44, 3) := by decide +kernel
theorem dX5_advise_61 : decode cX5_advise 61 = .ok (.getfield 55, 3) := by decide +kernel
theorem dX5_advise_64 : decode cX5_advise 64 = .ok (.if_icmp .ge 83, 3) := by decide +kernel
theorem dX5_advise_67 : decode cX5_advise 67 = .ok (.aload_n 0, 1) := by decide +kernel
theorem dX5_advise_68 : decode cX5_advise 68 = .ok (.getfield 44, 3) := by decide +kernel
theorem dX5_advise_71 : decode cX5_advise 71 = .ok (.iload 5, 2) := by decide +kernel
theorem dX5_advise_73 : decode cX5_advise 73 = .ok (.invokevirtual 175, 3) := by decide +kernel
theorem dX5_advise_76 : decode cX5_advise 76 = .ok (.ifCond .eq 65, 3) := by decide +kernel
theorem dX5_advise_79 : decode cX5_advise 79 = .ok (.aload_n 0, 1) := by decide +kernel
theorem dX5_advise_80 : decode cX5_advise 80 = .ok (.getfield 51, 3) := by decide +kernel
theorem dX5_advise_83 : decode cX5_advise 83 = .ok (.aload_n 0, 1) := by decide +kernel
theorem dX5_advise_84 : decode cX5_advise 84 = .ok (.getfield 44, 3) := by decide +kernel
theorem dX5_advise_87 : decode cX5_advise 87 = .ok (.invokevirtual 184, 3) := by decide +kernel
theorem dX5_advise_90 : decode cX5_advise 90 = .ok (.aload_n 0, 1) := by decide +kernel
theorem dX5_advise_91 : decode cX5_advise 91 = .ok (.getfield 51, 3) := by decide +kernel
theorem dX5_advise_94 : decode cX5_advise 94 = .ok (.iload 5, 2) := by decide +kernel
theorem dX5_advise_96 : decode cX5_advise 96 = .ok (.invokevirtual 178, 3) := by decide +kernel
theorem dX5_advise_99 : decode cX5_advise 99 = .ok (.pop, 1) := by decide +kernel
theorem dX5_advise_100 : decode cX5_advise 100 = .ok (.aload_n 0, 1) := by decide +kernel
theorem dX5_advise_101 : decode cX5_advise 101 = .ok (.getfield 51, 3) := by decide +kernel
theorem dX5_advise_104 : decode cX5_advise 104 = .ok (.iload_n 1, 1) := by decide +kernel
theorem dX5_advise_105 : decode cX5_advise 105 = .ok (.invokevirtual 181, 3) := by decide +kernel
theorem dX5_advise_108 : decode cX5_advise 108 = .ok (.pop, 1) := by decide +kernel
theorem dX5_advise_109 : decode cX5_advise 109 = .ok (.aload_n 0, 1) := by decide +kernel
theorem dX5_advise_110 : decode cX5_advise 110 = .ok (.getfield 51, 3) := by decide +kernel
theorem dX5_advise_113 : decode cX5_advise 113 = .ok (.invokevirtual 97, 3) := by decide +kernel
theorem dX5_advise_116 : decode cX5_advise 116 = .ok (.istore 6, 2) := by decide +kernel
theorem dX5_advise_118 : decode cX5_advise 118 = .ok (.iload 6, 2) := by decide +kernel
theorem dX5_advise_120 : decode cX5_advise 120 = .ok (.iload 4, 2) := by decide +kernel
theorem dX5_advise_122 : decode cX5_advise 122 = .ok (.if_icmp .le 8, 3) := by decide +kernel
theorem dX5_advise_125 : decode cX5_advise 125 = .ok (.iload 5, 2) := by decide +kernel
theorem dX5_advise_127 : decode cX5_advise 127 = .ok (.goto 4, 3) := by decide +kernel
theorem dX5_advise_130 : decode cX5_advise 130 = .ok (.iload_n 3, 1) := by decide +kernel
theorem dX5_advise_131 : decode cX5_advise 131 = .ok (.istore_n 3, 1) := by decide +kernel
theorem dX5_advise_132 : decode cX5_advise 132 = .ok (.iload 6, 2) := by decide +kernel
theorem dX5_advise_134 : decode cX5_advise 134 = .ok (.iload 4, 2) := by decide +kernel
theorem dX5_advise_136 : decode cX5_advise 136 = .ok (.invokestatic 191, 3) := by decide +kernel
theorem dX5_advise_139 : decode cX5_advise 139 = .ok (.istore 4, 2) := by decide +kernel
theorem dX5_advise_141 : decode cX5_advise 141 = .ok (.iinc 5 1, 3) := by decide +kernel
theorem dX5_advise_144 : decode cX5_advise 144 = .ok (.goto (-89), 3) := by decide +kernel
theorem dX5_advise_147 : decode cX5_advise 147 = .ok (.iload_n 2, 1) := by decide +kernel
theorem dX5_advise_148 : decode cX5_advise 148 = .ok (.ifCond .ne 7, 3) := by decide +kernel
theorem dX5_advise_151 : decode cX5_advise 151 = .ok (.iload_n 3, 1) := by decide +kernel
theorem dX5_advise_152 : decode cX5_advise 152 = .ok (.goto 5, 3) := by decide +kernel
theorem dX5_advise_155 : decode cX5_advise 155 = .ok (.iload 4, 2) := by decide +kernel
theorem dX5_advise_157 : decode cX5_advise 157 = .ok (.ireturn, 1) := by decide +kernel
set_option maxRecDepth 20000 in
theorem ggX5_turn_X5_isBelow : GoodIn wsX5_turn wsX5_isBelow := goodIn_r _ [5] (by decide +kernel) (by decide +kernel)
set_option maxRecDepth 20000 in
theorem gX5_turn_X5_isBelow : GoodIn wsX5_turn (va_wsS RX5 100 yX5_isBelow wsX5_isBelow) := goodIn_app (goodIn_of _ (by decide +kernel)) ggX5_turn_X5_isBelow
set_option maxRecDepth 20000 in
theorem ggX5_turn_X0_verdict : GoodIn wsX5_turn wsX0_verdict := goodIn_r _ [10, 11, 12, 13, 14, 9, 15, 16, 36, 37, 38, 39, 40, 41, 42, 43, 44, 45, 46, 47, 48, 49, 50] (by decide +kernel) (by decide +kernel)
set_option maxRecDepth 20000 in
theorem gX5_turn_X0_verdict : GoodIn wsX5_turn (wsV RX5 97 RX0 yX0_verdict wsX0_verdict) := goodIn_app (goodIn_of _ (by decide +kernel)) ggX5_turn_X0_verdict
set_option maxRecDepth 20000 in
theorem ggX5_turn_J6_bitCount_0f7a4 : GoodIn wsX5_turn wsJ6_bitCount_0f7a4 := goodIn_r _ [20, 21, 22, 23] (by decide +kernel) (by decide +kernel)
set_option maxRecDepth 20000 in
theorem gX5_turn_J6_bitCount_0f7a4 : GoodIn wsX5_turn (va_wsS RX5 196 yJ6_bitCount_0f7a4 wsJ6_bitCount_0f7a4) := goodIn_app (goodIn_of _ (by decide +kernel)) ggX5_turn_J6_bitCount_0f7a4
set_option maxRecDepth 20000 in
theorem ggX5_turn_X0_weightOf : GoodIn wsX5_turn wsX0_weightOf := goodIn_r _ [15, 16, 36, 37, 38, 39, 40, 41, 42, 43, 44, 45, 46, 47, 48, 49, 50] (by decide +kernel) (by decide +kernel)
set_option maxRecDepth 20000 in
theorem gX5_turn_X0_weightOf : GoodIn wsX5_turn (wsV RX5 201 RX0 yX0_weightOf wsX0_weightOf) := goodIn_app (goodIn_of _ (by decide +kernel)) ggX5_turn_X0_weightOf
theorem dX5_turn_0 : decode cX5_turn 0 = .ok (.iload_n 1, 1) := by decide +kernel
theorem dX5_turn_1 : decode cX5_turn 1 = .ok (.iconst 2, 1) := by decide +kernel
theorem dX5_turn_2 : decode cX5_turn 2 = .ok (.invokestatic 100, 3) := by decide +kernel
theorem dX5_turn_5 : decode cX5_turn 5 = .ok (.ifCond .ne 6, 3) := by decide +kernel
theorem dX5_turn_8 : decode cX5_turn 8 = .ok (.bipush (-2), 2) := by decide +kernel
theorem dX5_turn_10 : decode cX5_turn 10 = .ok (.ireturn, 1) := by decide +kernel
theorem dX5_turn_11 : decode cX5_turn 11 = .ok (.aload_n 0, 1) := by decide +kernel
theorem dX5_turn_12 : decode cX5_turn 12 = .ok (.getfield 44, 3) := by decide +kernel
theorem dX5_turn_15 : decode cX5_turn 15 = .ok (.invokevirtual 97, 3) := by decide +kernel
theorem dX5_turn_18 : decode cX5_turn 18 = .ok (.ifCond .le 7, 3) := by decide +kernel
theorem dX5_turn_21 : decode cX5_turn 21 = .ok (.iconst 1, 1) := by decide +kernel
theorem dX5_turn_22 : decode cX5_turn 22 = .ok (.goto 4, 3) := by decide +kernel
theorem dX5_turn_25 : decode cX5_turn 25 = .ok (.iconst 0, 1) := by decide +kernel
theorem dX5_turn_26 : decode cX5_turn 26 = .ok (.istore_n 2, 1) := by decide +kernel
theorem dX5_turn_27 : decode cX5_turn 27 = .ok (.iconst (-1), 1) := by decide +kernel
theorem dX5_turn_28 : decode cX5_turn 28 = .ok (.istore_n 3, 1) := by decide +kernel
theorem dX5_turn_29 : decode cX5_turn 29 = .ok (.iconst (-1), 1) := by decide +kernel
theorem dX5_turn_30 : decode cX5_turn 30 = .ok (.istore 4, 2) := by decide +kernel
theorem dX5_turn_32 : decode cX5_turn 32 = .ok (.iconst 1, 1) := by decide +kernel
theorem dX5_turn_33 : decode cX5_turn 33 = .ok (.istore 5, 2) := by decide +kernel
theorem dX5_turn_35 : decode cX5_turn 35 = .ok (.iload 5, 2) := by decide +kernel
theorem dX5_turn_37 : decode cX5_turn 37 = .ok (.sipush 1023, 3) := by decide +kernel
theorem dX5_turn_40 : decode cX5_turn 40 = .ok (.if_icmp .gt 90, 3) := by decide +kernel
theorem dX5_turn_43 : decode cX5_turn 43 = .ok (.iload 5, 2) := by decide +kernel
theorem dX5_turn_45 : decode cX5_turn 45 = .ok (.invokestatic 196, 3) := by decide +kernel
theorem dX5_turn_48 : decode cX5_turn 48 = .ok (.istore 6, 2) := by decide +kernel
theorem dX5_turn_50 : decode cX5_turn 50 = .ok (.iload 5, 2) := by decide +kernel
theorem dX5_turn_52 : decode cX5_turn 52 = .ok (.aload_n 0, 1) := by decide +kernel
theorem dX5_turn_53 : decode cX5_turn 53 = .ok (.getfield 44, 3) := by decide +kernel
theorem dX5_turn_56 : decode cX5_turn 56 = .ok (.getfield 94, 3) := by decide +kernel
theorem dX5_turn_59 : decode cX5_turn 59 = .ok (.iand, 1) := by decide +kernel
theorem dX5_turn_60 : decode cX5_turn 60 = .ok (.ifCond .ne 20, 3) := by decide +kernel
theorem dX5_turn_63 : decode cX5_turn 63 = .ok (.iload 4, 2) := by decide +kernel
theorem dX5_turn_65 : decode cX5_turn 65 = .ok (.iconst (-1), 1) := by decide +kernel
theorem dX5_turn_66 : decode cX5_turn 66 = .ok (.if_icmp .eq 10, 3) := by decide +kernel
theorem dX5_turn_69 : decode cX5_turn 69 = .ok (.iload 6, 2) := by decide +kernel
theorem dX5_turn_71 : decode cX5_turn 71 = .ok (.iload 4, 2) := by decide +kernel
theorem dX5_turn_73 : decode cX5_turn 73 = .ok (.if_icmp .ge 7, 3) := by decide +kernel
theorem dX5_turn_76 : decode cX5_turn 76 = .ok (.iconst 1, 1) := by decide +kernel
theorem dX5_turn_77 : decode cX5_turn 77 = .ok (.goto 4, 3) := by decide +kernel
theorem dX5_turn_80 : decode cX5_turn 80 = .ok (.iconst 0, 1) := by decide +kernel
theorem dX5_turn_81 : decode cX5_turn 81 = .ok (.istore 7, 2) := by decide +kernel
theorem dX5_turn_83 : decode cX5_turn 83 = .ok (.iload 7, 2) := by decide +kernel
theorem dX5_turn_85 : decode cX5_turn 85 = .ok (.ifCond .eq 39, 3) := by decide +kernel
theorem dX5_turn_88 : decode cX5_turn 88 = .ok (.aload_n 0, 1) := by decide +kernel
theorem dX5_turn_89 : decode cX5_turn 89 = .ok (.getfield 44, 3) := by decide +kernel
theorem dX5_turn_92 : decode cX5_turn 92 = .ok (.aload_n 0, 1) := by decide +kernel
theorem dX5_turn_93 : decode cX5_turn 93 = .ok (.getfield 44, 3) := by decide +kernel
theorem dX5_turn_96 : decode cX5_turn 96 = .ok (.getfield 94, 3) := by decide +kernel
theorem dX5_turn_99 : decode cX5_turn 99 = .ok (.iload 5, 2) := by decide +kernel
theorem dX5_turn_101 : decode cX5_turn 101 = .ok (.ior, 1) := by decide +kernel
theorem dX5_turn_102 : decode cX5_turn 102 = .ok (.invokevirtual 201, 3) := by decide +kernel
theorem dX5_turn_105 : decode cX5_turn 105 = .ok (.ifCond .le 7, 3) := by decide +kernel
theorem dX5_turn_108 : decode cX5_turn 108 = .ok (.iconst 1, 1) := by decide +kernel
theorem dX5_turn_109 : decode cX5_turn 109 = .ok (.goto 4, 3) := by decide +kernel
theorem dX5_turn_112 : decode cX5_turn 112 = .ok (.iconst 0, 1) := by decide +kernel
theorem dX5_turn_113 : decode cX5_turn 113 = .ok (.iload_n 2, 1) := by decide +kernel
theorem dX5_turn_114 : decode cX5_turn 114 = .ok (.if_icmp .eq 10, 3) := by decide +kernel
theorem dX5_turn_117 : decode cX5_turn 117 = .ok (.iload 5, 2) := by decide +kernel
theorem dX5_turn_119 : decode cX5_turn 119 = .ok (.istore_n 3, 1) := by decide +kernel
theorem dX5_turn_120 : decode cX5_turn 120 = .ok (.iload 6, 2) := by decide +kernel
theorem dX5_turn_122 : decode cX5_turn 122 = .ok (.istore 4, 2) := by decide +kernel
theorem dX5_turn_124 : decode cX5_turn 124 = .ok (.iinc 5 1, 3) := by decide +kernel
theorem dX5_turn_127 : decode cX5_turn 127 = .ok (.goto (-92), 3) := by decide +kernel
theorem dX5_turn_130 : decode cX5_turn 130 = .ok (.iload_n 1, 1) := by decide +kernel
theorem dX5_turn_131 : decode cX5_turn 131 = .ok (.ifCond .ne 7, 3) := by decide +kernel
theorem dX5_turn_134 : decode cX5_turn 134 = .ok (.iload_n 3, 1) := by decide +kernel
theorem dX5_turn_135 : decode cX5_turn 135 = .ok (.goto 5, 3) := by decide +kernel
theorem dX5_turn_138 : decode cX5_turn 138 = .ok (.iload 4, 2) := by decide +kernel
theorem dX5_turn_140 : decode cX5_turn 140 = .ok (.ireturn, 1) := by decide +kernel
set_option maxRecDepth 20000 in
theorem ggX5_gallant_X5_isBelow : GoodIn wsX5_gallant wsX5_isBelow := goodIn_r _ [10] (by decide +kernel) (by decide +kernel)
set_option maxRecDepth 20000 in
theorem gX5_gallant_X5_isBelow : GoodIn wsX5_gallant (va_wsS RX5 100 yX5_isBelow wsX5_isBelow) := goodIn_app (goodIn_of _ (by decide +kernel)) ggX5_gallant_X5_isBelow
set_option maxRecDepth 20000 in
theorem ggX5_gallant_X0_become : GoodIn wsX5_gallant wsX0_become := goodIn_r _ [15, 16, 17, 18, 19, 20, 21, 22, 23, 24, 25, 26, 27, 28, 29, 30, 31, 32, 33, 100, 101, 102, 103, 104, 105, 106, 107, 108, 109, 110, 111, 112, 113, 114] (by decide +kernel) (by decide +kernel)
set_option maxRecDepth 20000 in
theorem gX5_gallant_X0_become : GoodIn wsX5_gallant (wsV RX5 184 RX0 yX0_become wsX0_become) := goodIn_app (goodIn_of _ (by decide +kernel)) ggX5_gallant_X0_become
set_option maxRecDepth 20000 in
theorem ggX5_gallant_X0_passHours : GoodIn wsX5_gallant wsX0_passHours := goodIn_r _ [37, 31, 27, 21, 28, 30, 38, 39, 40, 14, 41, 33, 22, 23, 42, 43, 44, 45, 46, 47, 48, 49, 50, 51, 52, 53, 25, 24, 54, 55, 56, 57, 58, 59, 60, 61, 62, 63, 64, 65, 66, 67, 68, 69, 70, 71, 9, 72, 73, 74, 5, 75, 3, 4, 6, 76, 77, 78, 79, 80, 81, 82, 83, 84, 85, 86, 29, 26, 87, 100, 101, 102, 103, 104, 105, 106, 107, 108, 109, 110, 111, 112, 113, 114, 115, 116, 117, 118] (by decide +kernel) (by decide +kernel)
set_option maxRecDepth 20000 in
theorem gX5_gallant_X0_passHours : GoodIn wsX5_gallant (wsV RX5 181 RX0 yX0_passHours wsX0_passHours) := goodIn_app (goodIn_of _ (by decide +kernel)) ggX5_gallant_X0_passHours
set_option maxRecDepth 20000 in
theorem ggX5_gallant_J6_bitCount_0f7a4 : GoodIn wsX5_gallant wsJ6_bitCount_0f7a4 := goodIn_r _ [57, 58, 59, 60] (by decide +kernel) (by decide +kernel)
set_option maxRecDepth 20000 in
theorem gX5_gallant_J6_bitCount_0f7a4 : GoodIn wsX5_gallant (va_wsS RX5 196 yJ6_bitCount_0f7a4 wsJ6_bitCount_0f7a4) := goodIn_app (goodIn_of _ (by decide +kernel)) ggX5_gallant_J6_bitCount_0f7a4
theorem dX5_gallant_0 : decode cX5_gallant 0 = .ok (.iload_n 1, 1) := by decide +kernel
theorem dX5_gallant_1 : decode cX5_gallant 1 = .ok (.bipush 41, 2) := by decide +kernel
theorem dX5_gallant_3 : decode cX5_gallant 3 = .ok (.invokestatic 100, 3) := by decide +kernel
theorem dX5_gallant_6 : decode cX5_gallant 6 = .ok (.ifCond .eq 11, 3) := by decide +kernel
theorem dX5_gallant_9 : decode cX5_gallant 9 = .ok (.iload_n 2, 1) := by decide +kernel
theorem dX5_gallant_10 : decode cX5_gallant 10 = .ok (.iconst 2, 1) := by decide +kernel
theorem dX5_gallant_11 : decode cX5_gallant 11 = .ok (.invokestatic 100, 3) := by decide +kernel
theorem dX5_gallant_14 : decode cX5_gallant 14 = .ok (.ifCond .ne 6, 3) := by decide +kernel
theorem dX5_gallant_17 : decode cX5_gallant 17 = .ok (.bipush (-2), 2) := by decide +kernel
theorem dX5_gallant_19 : decode cX5_gallant 19 = .ok (.ireturn, 1) := by decide +kernel
theorem dX5_gallant_20 : decode cX5_gallant 20 = .ok (.aload_n 0, 1) := by decide +kernel
theorem dX5_gallant_21 : decode cX5_gallant 21 = .ok (.getfield 51, 3) := by decide +kernel
theorem dX5_gallant_24 : decode cX5_gallant 24 = .ok (.aload_n 0, 1) := by decide +kernel
theorem dX5_gallant_25 : decode cX5_gallant 25 = .ok (.getfield 44, 3) := by decide +kernel
theorem dX5_gallant_28 : decode cX5_gallant 28 = .ok (.invokevirtual 184, 3) := by decide +kernel
theorem dX5_gallant_31 : decode cX5_gallant 31 = .ok (.aload_n 0, 1) := by decide +kernel
theorem dX5_gallant_32 : decode cX5_gallant 32 = .ok (.getfield 51, 3) := by decide +kernel
theorem dX5_gallant_35 : decode cX5_gallant 35 = .ok (.iload_n 1, 1) := by decide +kernel
theorem dX5_gallant_36 : decode cX5_gallant 36 = .ok (.invokevirtual 181, 3) := by decide +kernel
theorem dX5_gallant_39 : decode cX5_gallant 39 = .ok (.pop, 1) := by decide +kernel
theorem dX5_gallant_40 : decode cX5_gallant 40 = .ok (.iconst (-1), 1) := by decide +kernel
theorem dX5_gallant_41 : decode cX5_gallant 41 = .ok (.istore_n 3, 1) := by decide +kernel
theorem dX5_gallant_42 : decode cX5_gallant 42 = .ok (.aload_n 0, 1) := by decide +kernel
theorem dX5_gallant_43 : decode cX5_gallant 43 = .ok (.getfield 51, 3) := by decide +kernel
theorem dX5_gallant_46 : decode cX5_gallant 46 = .ok (.getfield 94, 3) := by decide +kernel
theorem dX5_gallant_49 : decode cX5_gallant 49 = .ok (.invokestatic 196, 3) := by decide +kernel
theorem dX5_gallant_52 : decode cX5_gallant 52 = .ok (.istore 4, 2) := by decide +kernel
theorem dX5_gallant_54 : decode cX5_gallant 54 = .ok (.iconst 0, 1) := by decide +kernel
theorem dX5_gallant_55 : decode cX5_gallant 55 = .ok (.istore 5, 2) := by decide +kernel
theorem dX5_gallant_57 : decode cX5_gallant 57 = .ok (.iload 5, 2) := by decide +kernel
theorem dX5_gallant_59 : decode cX5_gallant 59 = .ok (.bipush 6, 2) := by decide +kernel
theorem dX5_gallant_61 : decode cX5_gallant 61 = .ok (.if_icmp .ge 76, 3) := by decide +kernel
theorem dX5_gallant_64 : decode cX5_gallant 64 = .ok (.aload_n 0, 1) := by decide +kernel
theorem dX5_gallant_65 : decode cX5_gallant 65 = .ok (.getfield 51, 3) := by decide +kernel
theorem dX5_gallant_68 : decode cX5_gallant 68 = .ok (.aload_n 0, 1) := by decide +kernel
theorem dX5_gallant_69 : decode cX5_gallant 69 = .ok (.getfield 44, 3) := by decide +kernel
theorem dX5_gallant_72 : decode cX5_gallant 72 = .ok (.invokevirtual 184, 3) := by decide +kernel
theorem dX5_gallant_75 : decode cX5_gallant 75 = .ok (.aload_n 0, 1) := by decide +kernel
theorem dX5_gallant_76 : decode cX5_gallant 76 = .ok (.getfield 51, 3) := by decide +kernel
theorem dX5_gallant_79 : decode cX5_gallant 79 = .ok (.getfield 87, 3) := by decide +kernel
theorem dX5_gallant_82 : decode cX5_gallant 82 = .ok (.iload 5, 2) := by decide +kernel
theorem dX5_gallant_84 : decode cX5_gallant 84 = .ok (.bipush 99, 2) := by decide +kernel
theorem dX5_gallant_86 : decode cX5_gallant 86 = .ok (.iastore, 1) := by decide +kernel
theorem dX5_gallant_87 : decode cX5_gallant 87 = .ok (.aload_n 0, 1) := by decide +kernel
theorem dX5_gallant_88 : decode cX5_gallant 88 = .ok (.getfield 51, 3) := by decide +kernel
theorem dX5_gallant_91 : decode cX5_gallant 91 = .ok (.iload_n 1, 1) := by decide +kernel
theorem dX5_gallant_92 : decode cX5_gallant 92 = .ok (.invokevirtual 181, 3) := by decide +kernel
theorem dX5_gallant_95 : decode cX5_gallant 95 = .ok (.pop, 1) := by decide +kernel
theorem dX5_gallant_96 : decode cX5_gallant 96 = .ok (.aload_n 0, 1) := by decide +kernel
theorem dX5_gallant_97 : decode cX5_gallant 97 = .ok (.getfield 51, 3) := by decide +kernel
theorem dX5_gallant_100 : decode cX5_gallant 100 = .ok (.getfield 94, 3) := by decide +kernel
theorem dX5_gallant_103 : decode cX5_gallant 103 = .ok (.invokestatic 196, 3) := by decide +kernel
theorem dX5_gallant_106 : decode cX5_gallant 106 = .ok (.istore 6, 2) := by decide +kernel
theorem dX5_gallant_108 : decode cX5_gallant 108 = .ok (.iload 6, 2) := by decide +kernel
theorem dX5_gallant_110 : decode cX5_gallant 110 = .ok (.iload 4, 2) := by decide +kernel
theorem dX5_gallant_112 : decode cX5_gallant 112 = .ok (.if_icmp .le 8, 3) := by decide +kernel
theorem dX5_gallant_115 : decode cX5_gallant 115 = .ok (.iload 5, 2) := by decide +kernel
theorem dX5_gallant_117 : decode cX5_gallant 117 = .ok (.goto 4, 3) := by decide +kernel
theorem dX5_gallant_120 : decode cX5_gallant 120 = .ok (.iload_n 3, 1) := by decide +kernel
theorem dX5_gallant_121 : decode cX5_gallant 121 = .ok (.istore_n 3, 1) := by decide +kernel
theorem dX5_gallant_122 : decode cX5_gallant 122 = .ok (.iload 6, 2) := by decide +kernel
theorem dX5_gallant_124 : decode cX5_gallant 124 = .ok (.iload 4, 2) := by decide +kernel
theorem dX5_gallant_126 : decode cX5_gallant 126 = .ok (.invokestatic 191, 3) := by decide +kernel
theorem dX5_gallant_129 : decode cX5_gallant 129 = .ok (.istore 4, 2) := by decide +kernel
theorem dX5_gallant_131 : decode cX5_gallant 131 = .ok (.iinc 5 1, 3) := by decide +kernel
theorem dX5_gallant_134 : decode cX5_gallant 134 = .ok (.goto (-77), 3) := by decide +kernel
theorem dX5_gallant_137 : decode cX5_gallant 137 = .ok (.iload_n 2, 1) := by decide +kernel
theorem dX5_gallant_138 : decode cX5_gallant 138 = .ok (.ifCond .ne 7, 3) := by decide +kernel
theorem dX5_gallant_141 : decode cX5_gallant 141 = .ok (.iload_n 3, 1) := by decide +kernel
theorem dX5_gallant_142 : decode cX5_gallant 142 = .ok (.goto 5, 3) := by decide +kernel
theorem dX5_gallant_145 : decode cX5_gallant 145 = .ok (.iload 4, 2) := by decide +kernel
theorem dX5_gallant_147 : decode cX5_gallant 147 = .ok (.ireturn, 1) := by decide +kernel
set_option maxRecDepth 20000 in
theorem ggX5_cast_X5_isBelow : GoodIn wsX5_cast wsX5_isBelow := goodIn_r _ [7] (by decide +kernel) (by decide +kernel)
set_option maxRecDepth 20000 in
theorem gX5_cast_X5_isBelow : GoodIn wsX5_cast (va_wsS RX5 100 yX5_isBelow wsX5_isBelow) := goodIn_app (goodIn_of _ (by decide +kernel)) ggX5_cast_X5_isBelow
set_option maxRecDepth 20000 in
theorem ggX5_cast_X5_tryRow : GoodIn wsX5_cast wsX5_tryRow := goodIn_r _ [11, 12, 13, 3, 1, 14, 15, 16, 17, 18, 19, 20, 21, 22, 23, 24, 25, 26, 27, 28, 29, 30, 31, 32, 33, 34, 35, 36, 37, 38, 39, 40, 41, 42, 43, 44, 45, 46, 47, 48, 49, 50, 51, 52, 53, 54, 55, 56, 57, 58, 59, 60, 61, 62, 63, 64, 65, 66, 67, 68, 69, 70, 71, 72, 73, 74, 6, 75, 76, 77, 78, 79, 80, 81, 82, 83, 84, 85, 86, 87, 88, 89, 90, 91, 92, 93, 94, 95, 96, 97, 98, 99, 100, 101, 102, 103, 104, 105, 106, 107, 108, 109, 110, 111, 112, 113, 114, 115, 116, 117, 118, 119, 120, 121, 122, 123, 124, 125, 126, 127, 128, 129, 130, 131, 132, 133, 8, 9, 10, 134, 135, 136, 137, 138, 139, 140, 141, 142, 143, 144, 145, 146, 147, 148, 149, 150, 151, 152, 153, 154, 155, 156, 157, 158, 159, 160, 161, 162, 163] (by decide +kernel) (by decide +kernel)
set_option maxRecDepth 20000 in
theorem gX5_cast_X5_tryRow : GoodIn wsX5_cast (wsV RX5 211 RX5 yX5_tryRow wsX5_tryRow) := goodIn_app (goodIn_of _ (by decide +kernel)) ggX5_cast_X5_tryRow
theorem dX5_cast_0 : decode cX5_cast 0 = .ok (.iload_n 1, 1) := by decide +kernel
theorem dX5_cast_1 : decode cX5_cast 1 = .ok (.iconst 4, 1) := by decide +kernel
theorem dX5_cast_2 : decode cX5_cast 2 = .ok (.invokestatic 100, 3) := by decide +kernel
theorem dX5_cast_5 : decode cX5_cast 5 = .ok (.ifCond .eq 11, 3) := by decide +kernel
theorem dX5_cast_8 : decode cX5_cast 8 = .ok (.iload_n 2, 1) := by decide +kernel
theorem dX5_cast_9 : decode cX5_cast 9 = .ok (.iconst 2, 1) := by decide +kernel
theorem dX5_cast_10 : decode cX5_cast 10 = .ok (.invokestatic 100, 3) := by decide +kernel
theorem dX5_cast_13 : decode cX5_cast 13 = .ok (.ifCond .ne 7, 3) := by decide +kernel
theorem dX5_cast_16 : decode cX5_cast 16 = .ok (.sipush (-5000), 3) := by decide +kernel
theorem dX5_cast_19 : decode cX5_cast 19 = .ok (.ireturn, 1) := by decide +kernel
theorem dX5_cast_20 : decode cX5_cast 20 = .ok (.aload_n 0, 1) := by decide +kernel
theorem dX5_cast_21 : decode cX5_cast 21 = .ok (.iconst 0, 1) := by decide +kernel
theorem dX5_cast_22 : decode cX5_cast 22 = .ok (.putfield 204, 3) := by decide +kernel
theorem dX5_cast_25 : decode cX5_cast 25 = .ok (.aload_n 0, 1) := by decide +kernel
theorem dX5_cast_26 : decode cX5_cast 26 = .ok (.ldc 207, 2) := by decide +kernel
theorem dX5_cast_28 : decode cX5_cast 28 = .ok (.putfield 208, 3) := by decide +kernel
theorem dX5_cast_31 : decode cX5_cast 31 = .ok (.aload_n 0, 1) := by decide +kernel
theorem dX5_cast_32 : decode cX5_cast 32 = .ok (.iconst 0, 1) := by decide +kernel
theorem dX5_cast_33 : decode cX5_cast 33 = .ok (.iload_n 1, 1) := by decide +kernel
theorem dX5_cast_34 : decode cX5_cast 34 = .ok (.iconst 0, 1) := by decide +kernel
theorem dX5_cast_35 : decode cX5_cast 35 = .ok (.iconst 0, 1) := by decide +kernel
theorem dX5_cast_36 : decode cX5_cast 36 = .ok (.invokevirtual 211, 3) := by decide +kernel
theorem dX5_cast_39 : decode cX5_cast 39 = .ok (.iload_n 2, 1) := by decide +kernel
theorem dX5_cast_40 : decode cX5_cast 40 = .ok (.ifCond .ne 10, 3) := by decide +kernel
theorem dX5_cast_43 : decode cX5_cast 43 = .ok (.aload_n 0, 1) := by decide +kernel
theorem dX5_cast_44 : decode cX5_cast 44 = .ok (.getfield 204, 3) := by decide +kernel
theorem dX5_cast_47 : decode cX5_cast 47 = .ok (.goto 7, 3) := by decide +kernel
theorem dX5_cast_50 : decode cX5_cast 50 = .ok (.aload_n 0, 1) := by decide +kernel
theorem dX5_cast_51 : decode cX5_cast 51 = .ok (.getfield 208, 3) := by decide +kernel
theorem dX5_cast_54 : decode cX5_cast 54 = .ok (.ireturn, 1) := by decide +kernel
set_option maxRecDepth 20000 in
theorem ggX5_tryRow_X0_become : GoodIn wsX5_tryRow wsX0_become := goodIn_r _ [9, 10, 11, 12, 13, 14, 15, 16, 17, 18, 19, 20, 21, 22, 23, 24, 25, 26, 27, 140, 141, 142, 143, 144, 145, 146, 147, 148, 149, 150, 151, 152, 153, 154] (by decide +kernel) (by decide +kernel)
set_option maxRecDepth 20000 in
theorem gX5_tryRow_X0_become : GoodIn wsX5_tryRow (wsV RX5 184 RX0 yX0_become wsX0_become) := goodIn_app (goodIn_of _ (by decide +kernel)) ggX5_tryRow_X0_become
set_option maxRecDepth 20000 in
theorem ggX5_tryRow_X0_passHours : GoodIn wsX5_tryRow wsX0_passHours := goodIn_r _ [31, 25, 21, 15, 22, 24, 32, 33, 34, 8, 35, 27, 16, 17, 36, 37, 38, 39, 40, 41, 42, 43, 44, 45, 46, 47, 19, 18, 48, 49, 50, 51, 52, 53, 54, 55, 56, 57, 58, 59, 60, 61, 62, 63, 64, 65, 66, 67, 68, 69, 70, 71, 72, 73, 74, 75, 76, 77, 78, 79, 80, 81, 82, 83, 84, 85, 23, 20, 86, 140, 141, 142, 143, 144, 145, 146, 147, 148, 149, 150, 151, 152, 153, 154, 155, 156, 157, 158] (by decide +kernel) (by decide +kernel)
set_option maxRecDepth 20000 in
theorem gX5_tryRow_X0_passHours : GoodIn wsX5_tryRow (wsV RX5 181 RX0 yX0_passHours wsX0_passHours) := goodIn_app (goodIn_of _ (by decide +kernel)) ggX5_tryRow_X0_passHours
set_option maxRecDepth 20000 in
theorem ggX5_tryRow_X0_verdict : GoodIn wsX5_tryRow wsX0_verdict := goodIn_r _ [90, 24, 91, 92, 93, 8, 94, 10, 140, 141, 142, 143, 144, 145, 146, 147, 148, 149, 150, 151, 152, 153, 154] (by decide +kernel) (by decide +kernel)
set_option maxRecDepth 20000 in
theorem gX5_tryRow_X0_verdict : GoodIn wsX5_tryRow (wsV RX5 97 RX0 yX0_verdict wsX0_verdict) := goodIn_app (goodIn_of _ (by decide +kernel)) ggX5_tryRow_X0_verdict
set_option maxRecDepth 20000 in
theorem ggX5_tryRow_X5_tryLongerRows : GoodIn wsX5_tryRow wsX5_tryLongerRows := goodIn_r _ [98, 2, 99, 100, 101, 8, 102, 18, 55, 56, 57, 58, 21, 5, 6, 7, 9, 10, 11, 12, 13, 14, 15, 16, 17, 19, 20, 22, 23, 24, 25, 26, 27, 103, 104, 105, 106, 107, 108, 109, 110, 48, 49, 50, 51, 52, 53, 54, 36, 37, 38, 39, 40, 41, 42, 43, 44, 45, 46, 47, 59, 60, 61, 62, 63, 64, 65, 66, 67, 68, 69, 70, 71, 72, 73, 74, 111, 112, 77, 113, 114, 115, 116, 117, 118, 119, 120, 121, 122, 123, 124, 125, 28, 29, 30, 31, 32, 33, 34, 35, 75, 76, 78, 79, 80, 81, 82, 83, 84, 85, 86, 126, 127, 128, 0, 1, 3, 4, 87, 88, 89, 90, 91, 92, 93, 94, 95, 96, 97, 129, 130, 131, 132, 133, 134, 135, 136, 137, 138, 139, 140, 141, 142, 143, 144, 145, 146, 147, 148, 149, 150, 151, 152, 153, 154, 155, 156, 157, 158] (by decide +kernel) (by decide +kernel)
set_option maxRecDepth 20000 in
theorem gX5_tryRow_X5_tryLongerRows : GoodIn wsX5_tryRow (wsV RX5 215 RX5 yX5_tryLongerRows wsX5_tryLongerRows) := goodIn_app (goodIn_of _ (by decide +kernel)) ggX5_tryRow_X5_tryLongerRows
theorem dX5_tryRow_0 : decode cX5_tryRow 0 = .ok (.aload_n 0, 1) := by decide +kernel
theorem dX5_tryRow_1 : decode cX5_tryRow 1 = .ok (.getfield 51, 3) := by decide +kernel
theorem dX5_tryRow_4 : decode cX5_tryRow 4 = .ok (.aload_n 0, 1) := by decide +kernel
theorem dX5_tryRow_5 : decode cX5_tryRow 5 = .ok (.getfield 30, 3) := by decide +kernel
theorem dX5_tryRow_8 : decode cX5_tryRow 8 = .ok (.iload_n 1, 1) := by decide +kernel
theorem dX5_tryRow_9 : decode cX5_tryRow 9 = .ok (.aaload, 1) := by decide +kernel
theorem dX5_tryRow_10 : decode cX5_tryRow 10 = .ok (.invokevirtual 184, 3) := by decide +kernel
theorem dX5_tryRow_13 : decode cX5_tryRow 13 = .ok (.aload_n 0, 1) := by decide +kernel
theorem dX5_tryRow_14 : decode cX5_tryRow 14 = .ok (.getfield 51, 3) := by decide +kernel
theorem dX5_tryRow_17 : decode cX5_tryRow 17 = .ok (.bipush 12, 2) := by decide +kernel
theorem dX5_tryRow_19 : decode cX5_tryRow 19 = .ok (.invokevirtual 181, 3) := by decide +kernel
theorem dX5_tryRow_22 : decode cX5_tryRow 22 = .ok (.pop, 1) := by decide +kernel
theorem dX5_tryRow_23 : decode cX5_tryRow 23 = .ok (.aload_n 0, 1) := by decide +kernel
theorem dX5_tryRow_24 : decode cX5_tryRow 24 = .ok (.getfield 51, 3) := by decide +kernel
theorem dX5_tryRow_27 : decode cX5_tryRow 27 = .ok (.invokevirtual 97, 3) := by decide +kernel
theorem dX5_tryRow_30 : decode cX5_tryRow 30 = .ok (.istore 5, 2) := by decide +kernel
theorem dX5_tryRow_32 : decode cX5_tryRow 32 = .ok (.iload 5, 2) := by decide +kernel
theorem dX5_tryRow_34 : decode cX5_tryRow 34 = .ok (.aload_n 0, 1) := by decide +kernel
theorem dX5_tryRow_35 : decode cX5_tryRow 35 = .ok (.getfield 208, 3) := by decide +kernel
theorem dX5_tryRow_38 : decode cX5_tryRow 38 = .ok (.if_icmp .le 15, 3) := by decide +kernel
theorem dX5_tryRow_41 : decode cX5_tryRow 41 = .ok (.aload_n 0, 1) := by decide +kernel
theorem dX5_tryRow_42 : decode cX5_tryRow 42 = .ok (.iload 5, 2) := by decide +kernel
theorem dX5_tryRow_44 : decode cX5_tryRow 44 = .ok (.putfield 208, 3) := by decide +kernel
theorem dX5_tryRow_47 : decode cX5_tryRow 47 = .ok (.aload_n 0, 1) := by decide +kernel
theorem dX5_tryRow_48 : decode cX5_tryRow 48 = .ok (.iload 4, 2) := by decide +kernel
theorem dX5_tryRow_50 : decode cX5_tryRow 50 = .ok (.putfield 204, 3) := by decide +kernel
theorem dX5_tryRow_53 : decode cX5_tryRow 53 = .ok (.iload_n 1, 1) := by decide +kernel
theorem dX5_tryRow_54 : decode cX5_tryRow 54 = .ok (.iload_n 2, 1) := by decide +kernel
theorem dX5_tryRow_55 : decode cX5_tryRow 55 = .ok (.if_icmp .ge 12, 3) := by decide +kernel
theorem dX5_tryRow_58 : decode cX5_tryRow 58 = .ok (.aload_n 0, 1) := by decide +kernel
theorem dX5_tryRow_59 : decode cX5_tryRow 59 = .ok (.iload_n 1, 1) := by decide +kernel
theorem dX5_tryRow_60 : decode cX5_tryRow 60 = .ok (.iload_n 2, 1) := by decide +kernel
theorem dX5_tryRow_61 : decode cX5_tryRow 61 = .ok (.iload_n 3, 1) := by decide +kernel
theorem dX5_tryRow_62 : decode cX5_tryRow 62 = .ok (.iload 4, 2) := by decide +kernel
theorem dX5_tryRow_64 : decode cX5_tryRow 64 = .ok (.invokevirtual 215, 3) := by decide +kernel
theorem dX5_tryRow_67 : decode cX5_tryRow 67 = .ok (.return_, 1) := by decide +kernel
set_option maxRecDepth 20000 in
theorem ggX5_tryLongerRows_X0_canLetFall : GoodIn wsX5_tryLongerRows wsX0_canLetFall := goodIn_r _ [6, 7, 8, 9, 10, 5, 11, 12, 140, 141, 142, 143, 144, 145, 146, 147, 148, 149, 150, 151, 152, 153, 154] (by decide +kernel) (by decide +kernel)
set_option maxRecDepth 20000 in
theorem gX5_tryLongerRows_X0_canLetFall : GoodIn wsX5_tryLongerRows (wsV RX5 175 RX0 yX0_canLetFall wsX0_canLetFall) := goodIn_app (goodIn_of _ (by decide +kernel)) ggX5_tryLongerRows_X0_canLetFall
set_option maxRecDepth 20000 in
theorem ggX5_tryLongerRows_X0_become : GoodIn wsX5_tryLongerRows wsX0_become := goodIn_r _ [16, 17, 18, 19, 20, 21, 22, 23, 24, 7, 25, 26, 12, 27, 28, 29, 30, 31, 32, 140, 141, 142, 143, 144, 145, 146, 147, 148, 149, 150, 151, 152, 153, 154] (by decide +kernel) (by decide +kernel)
set_option maxRecDepth 20000 in
theorem gX5_tryLongerRows_X0_become : GoodIn wsX5_tryLongerRows (wsV RX5 184 RX0 yX0_become wsX0_become) := goodIn_app (goodIn_of _ (by decide +kernel)) ggX5_tryLongerRows_X0_become
set_option maxRecDepth 20000 in
theorem ggX5_tryLongerRows_X0_letFall : GoodIn wsX5_tryLongerRows wsX0_letFall := goodIn_r _ [36, 12, 27, 28, 37, 38, 39, 5, 40, 7, 23, 32, 24, 41, 42, 43, 44, 45, 46, 47, 48, 49, 50, 51, 52, 53, 54, 55, 56, 57, 58, 59, 25, 30, 29, 8, 9, 10, 11, 60, 61, 62, 63, 64, 65, 66, 67, 68, 69, 70, 71, 72, 73, 74, 75, 76, 77, 78, 79, 80, 81, 82, 83, 84, 85, 86, 87, 88, 89, 90, 91, 140, 141, 142, 143, 144, 145, 146, 147, 148, 149, 150, 151, 152, 153, 154, 155, 156, 157, 158] (by decide +kernel) (by decide +kernel)
set_option maxRecDepth 20000 in
theorem gX5_tryLongerRows_X0_letFall : GoodIn wsX5_tryLongerRows (wsV RX5 178 RX0 yX0_letFall wsX0_letFall) := goodIn_app (goodIn_of _ (by decide +kernel)) ggX5_tryLongerRows_X0_letFall
set_option maxRecDepth 20000 in
theorem ggX5_tryLongerRows_X0_passHours : GoodIn wsX5_tryLongerRows wsX0_passHours := goodIn_r _ [95, 30, 12, 22, 27, 29, 96, 97, 98, 5, 99, 32, 23, 24, 48, 49, 50, 51, 52, 53, 54, 55, 56, 57, 58, 59, 25, 7, 41, 42, 43, 44, 45, 46, 47, 8, 9, 10, 11, 60, 61, 62, 63, 64, 65, 66, 67, 68, 69, 70, 71, 72, 73, 74, 75, 100, 101, 78, 102, 103, 104, 105, 106, 107, 108, 109, 28, 26, 110, 140, 141, 142, 143, 144, 145, 146, 147, 148, 149, 150, 151, 152, 153, 154, 155, 156, 157, 158] (by decide +kernel) (by decide +kernel)
set_option maxRecDepth 20000 in
theorem gX5_tryLongerRows_X0_passHours : GoodIn wsX5_tryLongerRows (wsV RX5 181 RX0 yX0_passHours wsX0_passHours) := goodIn_app (goodIn_of _ (by decide +kernel)) ggX5_tryLongerRows_X0_passHours
set_option maxRecDepth 20000 in
theorem ggX5_tryLongerRows_X5_tryRow : GoodIn wsX5_tryLongerRows wsX5_tryRow := goodIn_r _ [114, 115, 1, 116, 117, 13, 14, 15, 5, 16, 17, 18, 19, 20, 21, 22, 23, 24, 7, 25, 26, 12, 27, 28, 29, 30, 31, 32, 92, 93, 94, 95, 96, 97, 98, 99, 48, 49, 50, 51, 52, 53, 54, 55, 56, 57, 58, 59, 41, 42, 43, 44, 45, 46, 47, 8, 9, 10, 11, 60, 61, 62, 63, 64, 65, 66, 67, 68, 69, 70, 71, 72, 73, 74, 75, 100, 101, 78, 102, 103, 104, 105, 106, 107, 108, 109, 110, 118, 119, 120, 121, 122, 123, 124, 125, 126, 127, 128, 0, 2, 3, 4, 6, 33, 34, 35, 36, 37, 38, 39, 40, 76, 77, 79, 80, 81, 82, 83, 84, 85, 86, 87, 88, 89, 90, 91, 111, 112, 113, 129, 130, 131, 132, 133, 134, 135, 136, 137, 138, 139, 140, 141, 142, 143, 144, 145, 146, 147, 148, 149, 150, 151, 152, 153, 154, 155, 156, 157, 158] (by decide +kernel) (by decide +kernel)
set_option maxRecDepth 20000 in
theorem gX5_tryLongerRows_X5_tryRow : GoodIn wsX5_tryLongerRows (wsV RX5 211 RX5 yX5_tryRow wsX5_tryRow) := goodIn_app (goodIn_of _ (by decide +kernel)) ggX5_tryLongerRows_X5_tryRow
theorem dX5_tryLongerRows_0 : decode cX5_tryLongerRows 0 = .ok (.iload_n 1, 1) := by decide +kernel
theorem dX5_tryLongerRows_1 : decode cX5_tryLongerRows 1 = .ok (.iconst 1, 1) := by decide +kernel
theorem dX5_tryLongerRows_2 : decode cX5_tryLongerRows 2 = .ok (.iadd, 1) := by decide +kernel
theorem dX5_tryLongerRows_3 : decode cX5_tryLongerRows 3 = .ok (.aload_n 0, 1) := by decide +kernel
theorem dX5_tryLongerRows_4 : decode cX5_tryLongerRows 4 = .ok (.getfield 30, 3) := by decide +kernel
theorem dX5_tryLongerRows_7 : decode cX5_tryLongerRows 7 = .ok (.arraylength, 1) := by decide +kernel
theorem dX5_tryLongerRows_8 : decode cX5_tryLongerRows 8 = .ok (.if_icmp .lt 4, 3) := by decide +kernel
theorem dX5_tryLongerRows_11 : decode cX5_tryLongerRows 11 = .ok (.return_, 1) := by decide +kernel
theorem dX5_tryLongerRows_12 : decode cX5_tryLongerRows 12 = .ok (.aload_n 0, 1) := by decide +kernel
theorem dX5_tryLongerRows_13 : decode cX5_tryLongerRows 13 = .ok (.getfield 30, 3) := by decide +kernel
theorem dX5_tryLongerRows_16 : decode cX5_tryLongerRows 16 = .ok (.iload_n 1, 1) := by decide +kernel
theorem dX5_tryLongerRows_17 : decode cX5_tryLongerRows 17 = .ok (.aaload, 1) := by decide +kernel
theorem dX5_tryLongerRows_18 : decode cX5_tryLongerRows 18 = .ok (.astore 5, 2) := by decide +kernel
theorem dX5_tryLongerRows_20 : decode cX5_tryLongerRows 20 = .ok (.aload_n 0, 1) := by decide +kernel
theorem dX5_tryLongerRows_21 : decode cX5_tryLongerRows 21 = .ok (.getfield 30, 3) := by decide +kernel
theorem dX5_tryLongerRows_24 : decode cX5_tryLongerRows 24 = .ok (.iload_n 1, 1) := by decide +kernel
theorem dX5_tryLongerRows_25 : decode cX5_tryLongerRows 25 = .ok (.iconst 1, 1) := by decide +kernel
theorem dX5_tryLongerRows_26 : decode cX5_tryLongerRows 26 = .ok (.iadd, 1) := by decide +kernel
theorem dX5_tryLongerRows_27 : decode cX5_tryLongerRows 27 = .ok (.aaload, 1) := by decide +kernel
theorem dX5_tryLongerRows_28 : decode cX5_tryLongerRows 28 = .ok (.astore 6, 2) := by decide +kernel
theorem dX5_tryLongerRows_30 : decode cX5_tryLongerRows 30 = .ok (.iconst 0, 1) := by decide +kernel
theorem dX5_tryLongerRows_31 : decode cX5_tryLongerRows 31 = .ok (.istore 7, 2) := by decide +kernel
theorem dX5_tryLongerRows_33 : decode cX5_tryLongerRows 33 = .ok (.iload 7, 2) := by decide +kernel
theorem dX5_tryLongerRows_35 : decode cX5_tryLongerRows 35 = .ok (.aload 5, 2) := by decide +kernel
theorem dX5_tryLongerRows_37 : decode cX5_tryLongerRows 37 = .ok (.getfield 55, 3) := by decide +kernel
theorem dX5_tryLongerRows_40 : decode cX5_tryLongerRows 40 = .ok (.if_icmp .ge 74, 3) := by decide +kernel
theorem dX5_tryLongerRows_43 : decode cX5_tryLongerRows 43 = .ok (.iload_n 3, 1) := by decide +kernel
theorem dX5_tryLongerRows_44 : decode cX5_tryLongerRows 44 = .ok (.iload 7, 2) := by decide +kernel
theorem dX5_tryLongerRows_46 : decode cX5_tryLongerRows 46 = .ok (.ishr, 1) := by decide +kernel
theorem dX5_tryLongerRows_47 : decode cX5_tryLongerRows 47 = .ok (.iconst 1, 1) := by decide +kernel
theorem dX5_tryLongerRows_48 : decode cX5_tryLongerRows 48 = .ok (.iand, 1) := by decide +kernel
theorem dX5_tryLongerRows_49 : decode cX5_tryLongerRows 49 = .ok (.ifCond .ne 59, 3) := by decide +kernel
theorem dX5_tryLongerRows_52 : decode cX5_tryLongerRows 52 = .ok (.aload 5, 2) := by decide +kernel
theorem dX5_tryLongerRows_54 : decode cX5_tryLongerRows 54 = .ok (.iload 7, 2) := by decide +kernel
theorem dX5_tryLongerRows_56 : decode cX5_tryLongerRows 56 = .ok (.invokevirtual 175, 3) := by decide +kernel
theorem dX5_tryLongerRows_59 : decode cX5_tryLongerRows 59 = .ok (.ifCond .eq 49, 3) := by decide +kernel
theorem dX5_tryLongerRows_62 : decode cX5_tryLongerRows 62 = .ok (.aload 6, 2) := by decide +kernel
theorem dX5_tryLongerRows_64 : decode cX5_tryLongerRows 64 = .ok (.aload 5, 2) := by decide +kernel
theorem dX5_tryLongerRows_66 : decode cX5_tryLongerRows 66 = .ok (.invokevirtual 184, 3) := by decide +kernel
theorem dX5_tryLongerRows_69 : decode cX5_tryLongerRows 69 = .ok (.aload 6, 2) := by decide +kernel
theorem dX5_tryLongerRows_71 : decode cX5_tryLongerRows 71 = .ok (.iload 7, 2) := by decide +kernel
theorem dX5_tryLongerRows_73 : decode cX5_tryLongerRows 73 = .ok (.invokevirtual 178, 3) := by decide +kernel
theorem dX5_tryLongerRows_76 : decode cX5_tryLongerRows 76 = .ok (.pop, 1) := by decide +kernel
theorem dX5_tryLongerRows_77 : decode cX5_tryLongerRows 77 = .ok (.aload 6, 2) := by decide +kernel
theorem dX5_tryLongerRows_79 : decode cX5_tryLongerRows 79 = .ok (.iconst 1, 1) := by decide +kernel
theorem dX5_tryLongerRows_80 : decode cX5_tryLongerRows 80 = .ok (.invokevirtual 181, 3) := by decide +kernel
theorem dX5_tryLongerRows_83 : decode cX5_tryLongerRows 83 = .ok (.pop, 1) := by decide +kernel
theorem dX5_tryLongerRows_84 : decode cX5_tryLongerRows 84 = .ok (.aload_n 0, 1) := by decide +kernel
theorem dX5_tryLongerRows_85 : decode cX5_tryLongerRows 85 = .ok (.iload_n 1, 1) := by decide +kernel
theorem dX5_tryLongerRows_86 : decode cX5_tryLongerRows 86 = .ok (.iconst 1, 1) := by decide +kernel
theorem dX5_tryLongerRows_87 : decode cX5_tryLongerRows 87 = .ok (.iadd, 1) := by decide +kernel
theorem dX5_tryLongerRows_88 : decode cX5_tryLongerRows 88 = .ok (.iload_n 2, 1) := by decide +kernel
theorem dX5_tryLongerRows_89 : decode cX5_tryLongerRows 89 = .ok (.iload_n 3, 1) := by decide +kernel
theorem dX5_tryLongerRows_90 : decode cX5_tryLongerRows 90 = .ok (.iconst 1, 1) := by decide +kernel
theorem dX5_tryLongerRows_91 : decode cX5_tryLongerRows 91 = .ok (.iload 7, 2) := by decide +kernel
theorem dX5_tryLongerRows_93 : decode cX5_tryLongerRows 93 = .ok (.ishl, 1) := by decide +kernel
theorem dX5_tryLongerRows_94 : decode cX5_tryLongerRows 94 = .ok (.ior, 1) := by decide +kernel
theorem dX5_tryLongerRows_95 : decode cX5_tryLongerRows 95 = .ok (.iload 4, 2) := by decide +kernel
theorem dX5_tryLongerRows_97 : decode cX5_tryLongerRows 97 = .ok (.bipush 10, 2) := by decide +kernel
theorem dX5_tryLongerRows_99 : decode cX5_tryLongerRows 99 = .ok (.imul, 1) := by decide +kernel
theorem dX5_tryLongerRows_100 : decode cX5_tryLongerRows 100 = .ok (.iload 7, 2) := by decide +kernel
theorem dX5_tryLongerRows_102 : decode cX5_tryLongerRows 102 = .ok (.iadd, 1) := by decide +kernel
theorem dX5_tryLongerRows_103 : decode cX5_tryLongerRows 103 = .ok (.iconst 1, 1) := by decide +kernel
theorem dX5_tryLongerRows_104 : decode cX5_tryLongerRows 104 = .ok (.iadd, 1) := by decide +kernel
theorem dX5_tryLongerRows_105 : decode cX5_tryLongerRows 105 = .ok (.invokevirtual 211, 3) := by decide +kernel
theorem dX5_tryLongerRows_108 : decode cX5_tryLongerRows 108 = .ok (.iinc 7 1, 3) := by decide +kernel
theorem dX5_tryLongerRows_111 : decode cX5_tryLongerRows 111 = .ok (.goto (-78), 3) := by decide +kernel
theorem dX5_tryLongerRows_114 : decode cX5_tryLongerRows 114 = .ok (.return_, 1) := by decide +kernel
set_option maxRecDepth 20000 in
theorem ggX5_mean_J6_bitCount_0f7a4 : GoodIn wsX5_mean wsJ6_bitCount_0f7a4 := goodIn_r _ [6, 7, 8, 9] (by decide +kernel) (by decide +kernel)
set_option maxRecDepth 20000 in
theorem gX5_mean_J6_bitCount_0f7a4 : GoodIn wsX5_mean (va_wsS RX5 196 yJ6_bitCount_0f7a4 wsJ6_bitCount_0f7a4) := goodIn_app (goodIn_of _ (by decide +kernel)) ggX5_mean_J6_bitCount_0f7a4
set_option maxRecDepth 20000 in
theorem ggX5_mean_X0_verdict : GoodIn wsX5_mean wsX0_verdict := goodIn_r _ [14, 15, 16, 17, 18, 13, 19, 20, 46, 47, 48, 49, 50, 51, 52, 53, 54, 55, 56, 57, 58, 59, 60] (by decide +kernel) (by decide +kernel)
set_option maxRecDepth 20000 in
theorem gX5_mean_X0_verdict : GoodIn wsX5_mean (wsV RX5 97 RX0 yX0_verdict wsX0_verdict) := goodIn_app (goodIn_of _ (by decide +kernel)) ggX5_mean_X0_verdict
set_option maxRecDepth 20000 in
theorem ggX5_mean_X5_lowest : GoodIn wsX5_mean wsX5_lowest := goodIn_r _ [24, 25, 26, 27, 28, 2, 29, 30, 23, 31, 32, 33, 34] (by decide +kernel) (by decide +kernel)
set_option maxRecDepth 20000 in
theorem gX5_mean_X5_lowest : GoodIn wsX5_mean (va_wsS RX5 220 yX5_lowest wsX5_lowest) := goodIn_app (goodIn_of _ (by decide +kernel)) ggX5_mean_X5_lowest
theorem dX5_mean_0 : decode cX5_mean 0 = .ok (.aload_n 0, 1) := by decide +kernel
theorem dX5_mean_1 : decode cX5_mean 1 = .ok (.getfield 44, 3) := by decide +kernel
theorem dX5_mean_4 : decode cX5_mean 4 = .ok (.getfield 94, 3) := by decide +kernel
theorem dX5_mean_7 : decode cX5_mean 7 = .ok (.invokestatic 196, 3) := by decide +kernel
theorem dX5_mean_10 : decode cX5_mean 10 = .ok (.istore_n 2, 1) := by decide +kernel
theorem dX5_mean_11 : decode cX5_mean 11 = .ok (.iload_n 2, 1) := by decide +kernel
theorem dX5_mean_12 : decode cX5_mean 12 = .ok (.ifCond .ne 9, 3) := by decide +kernel
theorem dX5_mean_15 : decode cX5_mean 15 = .ok (.ldc2_w 218, 3) := by decide +kernel
theorem dX5_mean_18 : decode cX5_mean 18 = .ok (.goto 15, 3) := by decide +kernel
theorem dX5_mean_21 : decode cX5_mean 21 = .ok (.aload_n 0, 1) := by decide +kernel
theorem dX5_mean_22 : decode cX5_mean 22 = .ok (.getfield 44, 3) := by decide +kernel
theorem dX5_mean_25 : decode cX5_mean 25 = .ok (.invokevirtual 97, 3) := by decide +kernel
theorem dX5_mean_28 : decode cX5_mean 28 = .ok (.iload_n 2, 1) := by decide +kernel
theorem dX5_mean_29 : decode cX5_mean 29 = .ok (.iload_n 1, 1) := by decide +kernel
theorem dX5_mean_30 : decode cX5_mean 30 = .ok (.invokestatic 220, 3) := by decide +kernel
theorem dX5_mean_33 : decode cX5_mean 33 = .ok (.lreturn, 1) := by decide +kernel
set_option maxRecDepth 20000 in
theorem ggX5_lowest_X5_commonDivisor : GoodIn wsX5_lowest wsX5_commonDivisor := goodIn_r _ [9] (by decide +kernel) (by decide +kernel)
set_option maxRecDepth 20000 in
theorem gX5_lowest_X5_commonDivisor : GoodIn wsX5_lowest (va_wsS RX5 227 yX5_commonDivisor wsX5_commonDivisor) := goodIn_app (goodIn_of _ (by decide +kernel)) ggX5_lowest_X5_commonDivisor
set_option maxRecDepth 20000 in
theorem ggX5_lowest_X5_isBelow : GoodIn wsX5_lowest wsX5_isBelow := goodIn_r _ [12] (by decide +kernel) (by decide +kernel)
set_option maxRecDepth 20000 in
theorem gX5_lowest_X5_isBelow : GoodIn wsX5_lowest (va_wsS RX5 100 yX5_isBelow wsX5_isBelow) := goodIn_app (goodIn_of _ (by decide +kernel)) ggX5_lowest_X5_isBelow
theorem dX5_lowest_0 : decode cX5_lowest 0 = .ok (.iload_n 0, 1) := by decide +kernel
theorem dX5_lowest_1 : decode cX5_lowest 1 = .ok (.invokestatic 224, 3) := by decide +kernel
theorem dX5_lowest_4 : decode cX5_lowest 4 = .ok (.iload_n 1, 1) := by decide +kernel
theorem dX5_lowest_5 : decode cX5_lowest 5 = .ok (.invokestatic 227, 3) := by decide +kernel
theorem dX5_lowest_8 : decode cX5_lowest 8 = .ok (.istore_n 3, 1) := by decide +kernel
theorem dX5_lowest_9 : decode cX5_lowest 9 = .ok (.iload_n 2, 1) := by decide +kernel
theorem dX5_lowest_10 : decode cX5_lowest 10 = .ok (.iconst 2, 1) := by decide +kernel
theorem dX5_lowest_11 : decode cX5_lowest 11 = .ok (.invokestatic 100, 3) := by decide +kernel
theorem dX5_lowest_14 : decode cX5_lowest 14 = .ok (.ifCond .eq 7, 3) := by decide +kernel
theorem dX5_lowest_17 : decode cX5_lowest 17 = .ok (.iload_n 3, 1) := by decide +kernel
theorem dX5_lowest_18 : decode cX5_lowest 18 = .ok (.ifCond .gt 7, 3) := by decide +kernel
theorem dX5_lowest_21 : decode cX5_lowest 21 = .ok (.ldc2_w 218, 3) := by decide +kernel
theorem dX5_lowest_24 : decode cX5_lowest 24 = .ok (.lreturn, 1) := by decide +kernel
theorem dX5_lowest_25 : decode cX5_lowest 25 = .ok (.iload_n 2, 1) := by decide +kernel
theorem dX5_lowest_26 : decode cX5_lowest 26 = .ok (.ifCond .ne 7, 3) := by decide +kernel
theorem dX5_lowest_29 : decode cX5_lowest 29 = .ok (.iload_n 0, 1) := by decide +kernel
theorem dX5_lowest_30 : decode cX5_lowest 30 = .ok (.goto 4, 3) := by decide +kernel
theorem dX5_lowest_33 : decode cX5_lowest 33 = .ok (.iload_n 1, 1) := by decide +kernel
theorem dX5_lowest_34 : decode cX5_lowest 34 = .ok (.iload_n 3, 1) := by decide +kernel
theorem dX5_lowest_35 : decode cX5_lowest 35 = .ok (.idiv, 1) := by decide +kernel
theorem dX5_lowest_36 : decode cX5_lowest 36 = .ok (.i2l, 1) := by decide +kernel
theorem dX5_lowest_37 : decode cX5_lowest 37 = .ok (.lreturn, 1) := by decide +kernel
theorem dX5_commonDivisor_0 : decode cX5_commonDivisor 0 = .ok (.iload_n 0, 1) := by decide +kernel
theorem dX5_commonDivisor_1 : decode cX5_commonDivisor 1 = .ok (.istore_n 2, 1) := by decide +kernel
theorem dX5_commonDivisor_2 : decode cX5_commonDivisor 2 = .ok (.iload_n 1, 1) := by decide +kernel
theorem dX5_commonDivisor_3 : decode cX5_commonDivisor 3 = .ok (.istore_n 3, 1) := by decide +kernel
theorem dX5_commonDivisor_4 : decode cX5_commonDivisor 4 = .ok (.iconst 0, 1) := by decide +kernel
theorem dX5_commonDivisor_5 : decode cX5_commonDivisor 5 = .ok (.istore 4, 2) := by decide +kernel
theorem dX5_commonDivisor_7 : decode cX5_commonDivisor 7 = .ok (.iload 4, 2) := by decide +kernel
theorem dX5_commonDivisor_9 : decode cX5_commonDivisor 9 = .ok (.bipush 64, 2) := by decide +kernel
theorem dX5_commonDivisor_11 : decode cX5_commonDivisor 11 = .ok (.if_icmp .ge 23, 3) := by decide +kernel
theorem dX5_commonDivisor_14 : decode cX5_commonDivisor 14 = .ok (.iload_n 3, 1) := by decide +kernel
theorem dX5_commonDivisor_15 : decode cX5_commonDivisor 15 = .ok (.ifCond .eq 19, 3) := by decide +kernel
theorem dX5_commonDivisor_18 : decode cX5_commonDivisor 18 = .ok (.iload_n 2, 1) := by decide +kernel
theorem dX5_commonDivisor_19 : decode cX5_commonDivisor 19 = .ok (.iload_n 3, 1) := by decide +kernel
theorem dX5_commonDivisor_20 : decode cX5_commonDivisor 20 = .ok (.irem, 1) := by decide +kernel
theorem dX5_commonDivisor_21 : decode cX5_commonDivisor 21 = .ok (.istore 5, 2) := by decide +kernel
theorem dX5_commonDivisor_23 : decode cX5_commonDivisor 23 = .ok (.iload_n 3, 1) := by decide +kernel
theorem dX5_commonDivisor_24 : decode cX5_commonDivisor 24 = .ok (.istore_n 2, 1) := by decide +kernel
theorem dX5_commonDivisor_25 : decode cX5_commonDivisor 25 = .ok (.iload 5, 2) := by decide +kernel
theorem dX5_commonDivisor_27 : decode cX5_commonDivisor 27 = .ok (.istore_n 3, 1) := by decide +kernel
theorem dX5_commonDivisor_28 : decode cX5_commonDivisor 28 = .ok (.iinc 4 1, 3) := by decide +kernel
theorem dX5_commonDivisor_31 : decode cX5_commonDivisor 31 = .ok (.goto (-24), 3) := by decide +kernel
theorem dX5_commonDivisor_34 : decode cX5_commonDivisor 34 = .ok (.iload_n 2, 1) := by decide +kernel
theorem dX5_commonDivisor_35 : decode cX5_commonDivisor 35 = .ok (.ireturn, 1) := by decide +kernel
set_option maxRecDepth 20000 in
theorem ggX5_judge_X5_refusalOfTale : GoodIn wsX5_judge wsX5_refusalOfTale := goodIn_r _ [7, 8, 9, 10, 6, 11, 12, 13, 14, 15, 16, 17, 104, 105, 106, 107, 108, 109, 110, 111, 112, 113, 114, 115, 116, 117] (by decide +kernel) (by decide +kernel)
set_option maxRecDepth 20000 in
theorem gX5_judge_X5_refusalOfTale : GoodIn wsX5_judge (wsV RX5 230 RX5 yX5_refusalOfTale wsX5_refusalOfTale) := goodIn_app (goodIn_of _ (by decide +kernel)) ggX5_judge_X5_refusalOfTale
set_option maxRecDepth 20000 in
theorem ggX5_judge_X0_become : GoodIn wsX5_judge wsX0_become := goodIn_r _ [22, 23, 24, 25, 26, 27, 28, 29, 30, 31, 32, 33, 34, 35, 36, 37, 38, 39, 40, 118, 119, 120, 121, 122, 123, 124, 125, 126, 127, 128, 129, 130, 131, 132] (by decide +kernel) (by decide +kernel)
set_option maxRecDepth 20000 in
theorem gX5_judge_X0_become : GoodIn wsX5_judge (wsV RX5 184 RX0 yX0_become wsX0_become) := goodIn_app (goodIn_of _ (by decide +kernel)) ggX5_judge_X0_become
set_option maxRecDepth 20000 in
theorem ggX5_judge_X5_firstOtherwise : GoodIn wsX5_judge wsX5_firstOtherwise := goodIn_r _ [44, 8, 1, 45, 46, 47, 21, 48, 38, 34, 28, 35, 37, 49, 50, 51, 52, 40, 29, 30, 53, 54, 55, 56, 57, 58, 59, 60, 61, 62, 63, 64, 32, 31, 65, 66, 67, 68, 69, 70, 71, 72, 73, 74, 75, 76, 77, 78, 79, 80, 81, 82, 6, 83, 84, 85, 86, 87, 88, 89, 90, 91, 92, 93, 94, 95, 96, 97, 98, 99, 100, 101, 36, 33, 102, 103, 104, 105, 106, 107, 108, 109, 110, 111, 112, 113, 114, 115, 116, 117, 118, 119, 120, 121, 122, 123, 124, 125, 126, 127, 128, 129, 130, 131, 132, 133, 134, 135, 136] (by decide +kernel) (by decide +kernel)
set_option maxRecDepth 20000 in
theorem gX5_judge_X5_firstOtherwise : GoodIn wsX5_judge (wsV RX5 233 RX5 yX5_firstOtherwise wsX5_firstOtherwise) := goodIn_app (goodIn_of _ (by decide +kernel)) ggX5_judge_X5_firstOtherwise
theorem dX5_judge_0 : decode cX5_judge 0 = .ok (.aload_n 0, 1) := by decide +kernel
theorem dX5_judge_1 : decode cX5_judge 1 = .ok (.iload_n 1, 1) := by decide +kernel
theorem dX5_judge_2 : decode cX5_judge 2 = .ok (.invokevirtual 230, 3) := by decide +kernel
theorem dX5_judge_5 : decode cX5_judge 5 = .ok (.istore_n 2, 1) := by decide +kernel
theorem dX5_judge_6 : decode cX5_judge 6 = .ok (.iload_n 2, 1) := by decide +kernel
theorem dX5_judge_7 : decode cX5_judge 7 = .ok (.ifCond .eq 5, 3) := by decide +kernel
theorem dX5_judge_10 : decode cX5_judge 10 = .ok (.iload_n 2, 1) := by decide +kernel
theorem dX5_judge_11 : decode cX5_judge 11 = .ok (.ireturn, 1) := by decide +kernel
theorem dX5_judge_12 : decode cX5_judge 12 = .ok (.aload_n 0, 1) := by decide +kernel
theorem dX5_judge_13 : decode cX5_judge 13 = .ok (.getfield 51, 3) := by decide +kernel
theorem dX5_judge_16 : decode cX5_judge 16 = .ok (.aload_n 0, 1) := by decide +kernel
theorem dX5_judge_17 : decode cX5_judge 17 = .ok (.getfield 44, 3) := by decide +kernel
theorem dX5_judge_20 : decode cX5_judge 20 = .ok (.invokevirtual 184, 3) := by decide +kernel
theorem dX5_judge_23 : decode cX5_judge 23 = .ok (.aload_n 0, 1) := by decide +kernel
theorem dX5_judge_24 : decode cX5_judge 24 = .ok (.iload_n 1, 1) := by decide +kernel
theorem dX5_judge_25 : decode cX5_judge 25 = .ok (.invokevirtual 233, 3) := by decide +kernel
theorem dX5_judge_28 : decode cX5_judge 28 = .ok (.ireturn, 1) := by decide +kernel
set_option maxRecDepth 20000 in
theorem ggX5_kinds_X0_hasWitness : GoodIn wsX5_kinds wsX0_hasWitness := goodIn_r _ [7, 8, 9, 10, 11, 123, 124, 125, 126, 127, 128, 129, 130, 131, 132, 133, 134, 135, 136, 137] (by decide +kernel) (by decide +kernel)
set_option maxRecDepth 20000 in
theorem gX5_kinds_X0_hasWitness : GoodIn wsX5_kinds (wsV RX5 118 RX0 yX0_hasWitness wsX0_hasWitness) := goodIn_app (goodIn_of _ (by decide +kernel)) ggX5_kinds_X0_hasWitness
set_option maxRecDepth 20000 in
theorem ggX5_kinds_X5_refusalOfFitting : GoodIn wsX5_kinds wsX5_refusalOfFitting := goodIn_r _ [15, 16, 17, 18, 10, 19, 20, 21, 9, 11, 22, 23, 24, 25, 26, 27, 112, 113, 114, 115, 116, 117, 118, 119, 120, 121, 122, 138, 139, 140] (by decide +kernel) (by decide +kernel)
set_option maxRecDepth 20000 in
theorem gX5_kinds_X5_refusalOfFitting : GoodIn wsX5_kinds (wsV RX5 236 RX5 yX5_refusalOfFitting wsX5_refusalOfFitting) := goodIn_app (goodIn_of _ (by decide +kernel)) ggX5_kinds_X5_refusalOfFitting
set_option maxRecDepth 20000 in
theorem ggX5_kinds_X0_become : GoodIn wsX5_kinds wsX0_become := goodIn_r _ [31, 32, 33, 34, 35, 36, 37, 38, 39, 40, 41, 42, 43, 44, 45, 46, 47, 8, 48, 123, 124, 125, 126, 127, 128, 129, 130, 131, 132, 133, 134, 135, 136, 137] (by decide +kernel) (by decide +kernel)
set_option maxRecDepth 20000 in
theorem gX5_kinds_X0_become : GoodIn wsX5_kinds (wsV RX5 184 RX0 yX0_become wsX0_become) := goodIn_app (goodIn_of _ (by decide +kernel)) ggX5_kinds_X0_become
set_option maxRecDepth 20000 in
theorem ggX5_kinds_X5_firstOtherwise : GoodIn wsX5_kinds wsX5_firstOtherwise := goodIn_r _ [52, 20, 2, 53, 54, 55, 6, 56, 47, 43, 37, 44, 46, 57, 58, 59, 60, 48, 38, 39, 61, 62, 63, 64, 65, 66, 67, 68, 69, 70, 71, 72, 41, 40, 73, 74, 75, 76, 77, 78, 79, 80, 81, 82, 83, 84, 85, 86, 87, 88, 89, 90, 10, 91, 92, 93, 94, 95, 96, 97, 98, 99, 100, 101, 102, 103, 104, 105, 106, 107, 108, 109, 45, 42, 110, 111, 112, 113, 114, 115, 116, 117, 118, 119, 120, 121, 122, 138, 139, 140, 123, 124, 125, 126, 127, 128, 129, 130, 131, 132, 133, 134, 135, 136, 137, 141, 142, 143, 144] (by decide +kernel) (by decide +kernel)
set_option maxRecDepth 20000 in
theorem gX5_kinds_X5_firstOtherwise : GoodIn wsX5_kinds (wsV RX5 233 RX5 yX5_firstOtherwise wsX5_firstOtherwise) := goodIn_app (goodIn_of _ (by decide +kernel)) ggX5_kinds_X5_firstOtherwise
theorem dX5_kinds_0 : decode cX5_kinds 0 = .ok (.aload_n 0, 1) := by decide +kernel
theorem dX5_kinds_1 : decode cX5_kinds 1 = .ok (.iload_n 1, 1) := by decide +kernel
theorem dX5_kinds_2 : decode cX5_kinds 2 = .ok (.aload_n 0, 1) := by decide +kernel
theorem dX5_kinds_3 : decode cX5_kinds 3 = .ok (.getfield 44, 3) := by decide +kernel
theorem dX5_kinds_6 : decode cX5_kinds 6 = .ok (.iload_n 2, 1) := by decide +kernel
theorem dX5_kinds_7 : decode cX5_kinds 7 = .ok (.invokevirtual 118, 3) := by decide +kernel
theorem dX5_kinds_10 : decode cX5_kinds 10 = .ok (.iload_n 3, 1) := by decide +kernel
theorem dX5_kinds_11 : decode cX5_kinds 11 = .ok (.invokevirtual 236, 3) := by decide +kernel
theorem dX5_kinds_14 : decode cX5_kinds 14 = .ok (.istore 4, 2) := by decide +kernel
theorem dX5_kinds_16 : decode cX5_kinds 16 = .ok (.iload 4, 2) := by decide +kernel
theorem dX5_kinds_18 : decode cX5_kinds 18 = .ok (.ifCond .eq 6, 3) := by decide +kernel
theorem dX5_kinds_21 : decode cX5_kinds 21 = .ok (.iload 4, 2) := by decide +kernel
theorem dX5_kinds_23 : decode cX5_kinds 23 = .ok (.ireturn, 1) := by decide +kernel
theorem dX5_kinds_24 : decode cX5_kinds 24 = .ok (.iconst 0, 1) := by decide +kernel
theorem dX5_kinds_25 : decode cX5_kinds 25 = .ok (.istore 5, 2) := by decide +kernel
theorem dX5_kinds_27 : decode cX5_kinds 27 = .ok (.iconst 0, 1) := by decide +kernel
theorem dX5_kinds_28 : decode cX5_kinds 28 = .ok (.istore 6, 2) := by decide +kernel
theorem dX5_kinds_30 : decode cX5_kinds 30 = .ok (.iload 6, 2) := by decide +kernel
theorem dX5_kinds_32 : decode cX5_kinds 32 = .ok (.iload_n 3, 1) := by decide +kernel
theorem dX5_kinds_33 : decode cX5_kinds 33 = .ok (.ifCond .ne 8, 3) := by decide +kernel
theorem dX5_kinds_36 : decode cX5_kinds 36 = .ok (.bipush 6, 2) := by decide +kernel
theorem dX5_kinds_38 : decode cX5_kinds 38 = .ok (.goto 5, 3) := by decide +kernel
theorem dX5_kinds_41 : decode cX5_kinds 41 = .ok (.bipush 10, 2) := by decide +kernel
theorem dX5_kinds_43 : decode cX5_kinds 43 = .ok (.if_icmp .ge 67, 3) := by decide +kernel
theorem dX5_kinds_46 : decode cX5_kinds 46 = .ok (.aload_n 0, 1) := by decide +kernel
theorem dX5_kinds_47 : decode cX5_kinds 47 = .ok (.getfield 51, 3) := by decide +kernel
theorem dX5_kinds_50 : decode cX5_kinds 50 = .ok (.aload_n 0, 1) := by decide +kernel
theorem dX5_kinds_51 : decode cX5_kinds 51 = .ok (.getfield 44, 3) := by decide +kernel
theorem dX5_kinds_54 : decode cX5_kinds 54 = .ok (.invokevirtual 184, 3) := by decide +kernel
theorem dX5_kinds_57 : decode cX5_kinds 57 = .ok (.iload_n 3, 1) := by decide +kernel
theorem dX5_kinds_58 : decode cX5_kinds 58 = .ok (.ifCond .ne 13, 3) := by decide +kernel
theorem dX5_kinds_61 : decode cX5_kinds 61 = .ok (.aload_n 0, 1) := by decide +kernel
theorem dX5_kinds_62 : decode cX5_kinds 62 = .ok (.getfield 51, 3) := by decide +kernel
theorem dX5_kinds_65 : decode cX5_kinds 65 = .ok (.getfield 138, 3) := by decide +kernel
theorem dX5_kinds_68 : decode cX5_kinds 68 = .ok (.goto 10, 3) := by decide +kernel
theorem dX5_kinds_71 : decode cX5_kinds 71 = .ok (.aload_n 0, 1) := by decide +kernel
theorem dX5_kinds_72 : decode cX5_kinds 72 = .ok (.getfield 51, 3) := by decide +kernel
theorem dX5_kinds_75 : decode cX5_kinds 75 = .ok (.getfield 141, 3) := by decide +kernel
theorem dX5_kinds_78 : decode cX5_kinds 78 = .ok (.iload_n 2, 1) := by decide +kernel
theorem dX5_kinds_79 : decode cX5_kinds 79 = .ok (.iload 6, 2) := by decide +kernel
theorem dX5_kinds_81 : decode cX5_kinds 81 = .ok (.iastore, 1) := by decide +kernel
theorem dX5_kinds_82 : decode cX5_kinds 82 = .ok (.iload 5, 2) := by decide +kernel
theorem dX5_kinds_84 : decode cX5_kinds 84 = .ok (.aload_n 0, 1) := by decide +kernel
theorem dX5_kinds_85 : decode cX5_kinds 85 = .ok (.iload_n 1, 1) := by decide +kernel
theorem dX5_kinds_86 : decode cX5_kinds 86 = .ok (.invokevirtual 233, 3) := by decide +kernel
theorem dX5_kinds_89 : decode cX5_kinds 89 = .ok (.iconst (-1), 1) := by decide +kernel
theorem dX5_kinds_90 : decode cX5_kinds 90 = .ok (.if_icmp .ne 10, 3) := by decide +kernel
theorem dX5_kinds_93 : decode cX5_kinds 93 = .ok (.iconst 1, 1) := by decide +kernel
theorem dX5_kinds_94 : decode cX5_kinds 94 = .ok (.iload 6, 2) := by decide +kernel
theorem dX5_kinds_96 : decode cX5_kinds 96 = .ok (.ishl, 1) := by decide +kernel
theorem dX5_kinds_97 : decode cX5_kinds 97 = .ok (.goto 4, 3) := by decide +kernel
theorem dX5_kinds_100 : decode cX5_kinds 100 = .ok (.iconst 0, 1) := by decide +kernel
theorem dX5_kinds_101 : decode cX5_kinds 101 = .ok (.ior, 1) := by decide +kernel
theorem dX5_kinds_102 : decode cX5_kinds 102 = .ok (.istore 5, 2) := by decide +kernel
theorem dX5_kinds_104 : decode cX5_kinds 104 = .ok (.iinc 6 1, 3) := by decide +kernel
theorem dX5_kinds_107 : decode cX5_kinds 107 = .ok (.goto (-77), 3) := by decide +kernel
theorem dX5_kinds_110 : decode cX5_kinds 110 = .ok (.iload 5, 2) := by decide +kernel
theorem dX5_kinds_112 : decode cX5_kinds 112 = .ok (.ireturn, 1) := by decide +kernel
set_option maxRecDepth 20000 in
theorem ggX5_faces_X0_hasWitness : GoodIn wsX5_faces wsX0_hasWitness := goodIn_r _ [7, 8, 9, 10, 11, 127, 128, 129, 130, 131, 132, 133, 134, 135, 136, 137, 138, 139, 140, 141] (by decide +kernel) (by decide +kernel)
set_option maxRecDepth 20000 in
theorem gX5_faces_X0_hasWitness : GoodIn wsX5_faces (wsV RX5 118 RX0 yX0_hasWitness wsX0_hasWitness) := goodIn_app (goodIn_of _ (by decide +kernel)) ggX5_faces_X0_hasWitness
set_option maxRecDepth 20000 in
theorem ggX5_faces_X5_refusalOfFitting : GoodIn wsX5_faces wsX5_refusalOfFitting := goodIn_r _ [15, 16, 17, 18, 10, 19, 20, 21, 9, 11, 22, 23, 24, 25, 26, 27, 116, 117, 118, 119, 120, 121, 122, 123, 124, 125, 126, 142, 143, 144] (by decide +kernel) (by decide +kernel)
set_option maxRecDepth 20000 in
theorem gX5_faces_X5_refusalOfFitting : GoodIn wsX5_faces (wsV RX5 236 RX5 yX5_refusalOfFitting wsX5_refusalOfFitting) := goodIn_app (goodIn_of _ (by decide +kernel)) ggX5_faces_X5_refusalOfFitting
set_option maxRecDepth 20000 in
theorem ggX5_faces_X5_fitting : GoodIn wsX5_faces wsX5_fitting := goodIn_r _ [31, 2, 1, 32, 33, 34, 6, 35, 36, 37, 38, 39, 40, 41, 42, 43, 44, 45, 46, 47, 48, 49, 50, 51, 8, 52, 53, 54, 55, 10, 56, 20, 57, 58, 59, 60, 61, 62, 63, 64, 65, 66, 67, 68, 69, 70, 71, 72, 73, 74, 75, 76, 77, 78, 79, 80, 81, 82, 83, 84, 85, 86, 87, 88, 89, 90, 91, 92, 93, 94, 95, 96, 97, 98, 99, 100, 101, 102, 103, 104, 105, 106, 107, 108, 109, 110, 111, 112, 113, 114, 115, 116, 117, 118, 119, 120, 121, 122, 123, 124, 125, 126, 127, 128, 129, 130, 131, 132, 133, 134, 135, 136, 137, 138, 139, 140, 141, 142, 143, 144, 145, 146, 147, 148] (by decide +kernel) (by decide +kernel)
set_option maxRecDepth 20000 in
theorem gX5_faces_X5_fitting : GoodIn wsX5_faces (wsV RX5 240 RX5 yX5_fitting wsX5_fitting) := goodIn_app (goodIn_of _ (by decide +kernel)) ggX5_faces_X5_fitting
theorem dX5_faces_0 : decode cX5_faces 0 = .ok (.aload_n 0, 1) := by decide +kernel
theorem dX5_faces_1 : decode cX5_faces 1 = .ok (.iload_n 1, 1) := by decide +kernel
theorem dX5_faces_2 : decode cX5_faces 2 = .ok (.aload_n 0, 1) := by decide +kernel
theorem dX5_faces_3 : decode cX5_faces 3 = .ok (.getfield 44, 3) := by decide +kernel
theorem dX5_faces_6 : decode cX5_faces 6 = .ok (.iload_n 2, 1) := by decide +kernel
theorem dX5_faces_7 : decode cX5_faces 7 = .ok (.invokevirtual 118, 3) := by decide +kernel
theorem dX5_faces_10 : decode cX5_faces 10 = .ok (.iload_n 3, 1) := by decide +kernel
theorem dX5_faces_11 : decode cX5_faces 11 = .ok (.invokevirtual 236, 3) := by decide +kernel
theorem dX5_faces_14 : decode cX5_faces 14 = .ok (.istore 4, 2) := by decide +kernel
theorem dX5_faces_16 : decode cX5_faces 16 = .ok (.iload 4, 2) := by decide +kernel
theorem dX5_faces_18 : decode cX5_faces 18 = .ok (.ifCond .eq 8, 3) := by decide +kernel
theorem dX5_faces_21 : decode cX5_faces 21 = .ok (.iload 4, 2) := by decide +kernel
theorem dX5_faces_23 : decode cX5_faces 23 = .ok (.goto 17, 3) := by decide +kernel
theorem dX5_faces_26 : decode cX5_faces 26 = .ok (.aload_n 0, 1) := by decide +kernel
theorem dX5_faces_27 : decode cX5_faces 27 = .ok (.iload_n 1, 1) := by decide +kernel
theorem dX5_faces_28 : decode cX5_faces 28 = .ok (.aload_n 0, 1) := by decide +kernel
theorem dX5_faces_29 : decode cX5_faces 29 = .ok (.getfield 51, 3) := by decide +kernel
theorem dX5_faces_32 : decode cX5_faces 32 = .ok (.getfield 132, 3) := by decide +kernel
theorem dX5_faces_35 : decode cX5_faces 35 = .ok (.iload_n 2, 1) := by decide +kernel
theorem dX5_faces_36 : decode cX5_faces 36 = .ok (.iload_n 3, 1) := by decide +kernel
theorem dX5_faces_37 : decode cX5_faces 37 = .ok (.invokevirtual 240, 3) := by decide +kernel
theorem dX5_faces_40 : decode cX5_faces 40 = .ok (.ireturn, 1) := by decide +kernel
set_option maxRecDepth 20000 in
theorem ggX5_keens_X5_isBelow : GoodIn wsX5_keens wsX5_isBelow := goodIn_r _ [5] (by decide +kernel) (by decide +kernel)
set_option maxRecDepth 20000 in
theorem gX5_keens_X5_isBelow : GoodIn wsX5_keens (va_wsS RX5 100 yX5_isBelow wsX5_isBelow) := goodIn_app (goodIn_of _ (by decide +kernel)) ggX5_keens_X5_isBelow
set_option maxRecDepth 20000 in
theorem ggX5_keens_X5_refusalOfFitting : GoodIn wsX5_keens wsX5_refusalOfFitting := goodIn_r _ [9, 10, 11, 12, 4, 13, 14, 2, 3, 5, 15, 16, 17, 18, 19, 20, 112, 113, 114, 115, 116, 117, 118, 119, 120, 121, 122, 138, 139, 140] (by decide +kernel) (by decide +kernel)
set_option maxRecDepth 20000 in
theorem gX5_keens_X5_refusalOfFitting : GoodIn wsX5_keens (wsV RX5 236 RX5 yX5_refusalOfFitting wsX5_refusalOfFitting) := goodIn_app (goodIn_of _ (by decide +kernel)) ggX5_keens_X5_refusalOfFitting
set_option maxRecDepth 20000 in
theorem ggX5_keens_X5_fitting : GoodIn wsX5_keens wsX5_fitting := goodIn_r _ [24, 1, 25, 26, 27, 28, 29, 30, 31, 32, 33, 34, 35, 36, 37, 38, 39, 40, 41, 42, 43, 44, 45, 46, 47, 48, 49, 50, 51, 4, 52, 14, 53, 54, 55, 56, 57, 58, 59, 60, 61, 62, 63, 64, 65, 66, 67, 68, 69, 70, 71, 72, 73, 74, 75, 76, 77, 78, 79, 80, 81, 82, 83, 84, 85, 86, 87, 88, 89, 90, 91, 92, 93, 94, 95, 96, 97, 98, 99, 100, 101, 102, 103, 104, 105, 106, 107, 108, 109, 110, 111, 112, 113, 114, 115, 116, 117, 118, 119, 120, 121, 122, 123, 124, 125, 126, 127, 128, 129, 130, 131, 132, 133, 134, 135, 136, 137, 138, 139, 140, 141, 142, 143, 144] (by decide +kernel) (by decide +kernel)
set_option maxRecDepth 20000 in
theorem gX5_keens_X5_fitting : GoodIn wsX5_keens (wsV RX5 240 RX5 yX5_fitting wsX5_fitting) := goodIn_app (goodIn_of _ (by decide +kernel)) ggX5_keens_X5_fitting
theorem dX5_keens_0 : decode cX5_keens 0 = .ok (.aload_n 0, 1) := by decide +kernel
theorem dX5_keens_1 : decode cX5_keens 1 = .ok (.iload_n 1, 1) := by decide +kernel
theorem dX5_keens_2 : decode cX5_keens 2 = .ok (.iload_n 2, 1) := by decide +kernel
theorem dX5_keens_3 : decode cX5_keens 3 = .ok (.bipush 6, 2) := by decide +kernel
theorem dX5_keens_5 : decode cX5_keens 5 = .ok (.invokestatic 100, 3) := by decide +kernel
theorem dX5_keens_8 : decode cX5_keens 8 = .ok (.iload_n 3, 1) := by decide +kernel
theorem dX5_keens_9 : decode cX5_keens 9 = .ok (.invokevirtual 236, 3) := by decide +kernel
theorem dX5_keens_12 : decode cX5_keens 12 = .ok (.istore 4, 2) := by decide +kernel
theorem dX5_keens_14 : decode cX5_keens 14 = .ok (.iload 4, 2) := by decide +kernel
theorem dX5_keens_16 : decode cX5_keens 16 = .ok (.ifCond .eq 8, 3) := by decide +kernel
theorem dX5_keens_19 : decode cX5_keens 19 = .ok (.iload 4, 2) := by decide +kernel
theorem dX5_keens_21 : decode cX5_keens 21 = .ok (.goto 17, 3) := by decide +kernel
theorem dX5_keens_24 : decode cX5_keens 24 = .ok (.aload_n 0, 1) := by decide +kernel
theorem dX5_keens_25 : decode cX5_keens 25 = .ok (.iload_n 1, 1) := by decide +kernel
theorem dX5_keens_26 : decode cX5_keens 26 = .ok (.aload_n 0, 1) := by decide +kernel
theorem dX5_keens_27 : decode cX5_keens 27 = .ok (.getfield 51, 3) := by decide +kernel
theorem dX5_keens_30 : decode cX5_keens 30 = .ok (.getfield 87, 3) := by decide +kernel
theorem dX5_keens_33 : decode cX5_keens 33 = .ok (.iload_n 2, 1) := by decide +kernel
theorem dX5_keens_34 : decode cX5_keens 34 = .ok (.iload_n 3, 1) := by decide +kernel
theorem dX5_keens_35 : decode cX5_keens 35 = .ok (.invokevirtual 240, 3) := by decide +kernel
theorem dX5_keens_38 : decode cX5_keens 38 = .ok (.ireturn, 1) := by decide +kernel
set_option maxRecDepth 20000 in
theorem ggX5_burnt_X5_refusalOfTale : GoodIn wsX5_burnt wsX5_refusalOfTale := goodIn_r _ [7, 8, 9, 10, 6, 11, 12, 13, 14, 15, 16, 17, 108, 109, 110, 111, 112, 113, 114, 115, 116, 117, 118, 134, 135, 136] (by decide +kernel) (by decide +kernel)
set_option maxRecDepth 20000 in
theorem gX5_burnt_X5_refusalOfTale : GoodIn wsX5_burnt (wsV RX5 230 RX5 yX5_refusalOfTale wsX5_refusalOfTale) := goodIn_app (goodIn_of _ (by decide +kernel)) ggX5_burnt_X5_refusalOfTale
set_option maxRecDepth 20000 in
theorem ggX5_burnt_X0_lies : GoodIn wsX5_burnt wsX0_lies := goodIn_r _ [22, 23, 10, 6, 11, 119, 120, 121, 122, 123, 124, 125, 126, 127, 128, 129, 130, 131, 132, 133] (by decide +kernel) (by decide +kernel)
set_option maxRecDepth 20000 in
theorem gX5_burnt_X0_lies : GoodIn wsX5_burnt (wsV RX5 163 RX0 yX0_lies wsX0_lies) := goodIn_app (goodIn_of _ (by decide +kernel)) ggX5_burnt_X0_lies
set_option maxRecDepth 20000 in
theorem ggX5_burnt_X0_become : GoodIn wsX5_burnt wsX0_become := goodIn_r _ [27, 28, 29, 30, 31, 32, 33, 34, 35, 36, 37, 38, 23, 39, 40, 41, 42, 43, 44, 119, 120, 121, 122, 123, 124, 125, 126, 127, 128, 129, 130, 131, 132, 133] (by decide +kernel) (by decide +kernel)
set_option maxRecDepth 20000 in
theorem gX5_burnt_X0_become : GoodIn wsX5_burnt (wsV RX5 184 RX0 yX0_become wsX0_become) := goodIn_app (goodIn_of _ (by decide +kernel)) ggX5_burnt_X0_become
set_option maxRecDepth 20000 in
theorem ggX5_burnt_X5_firstOtherwise : GoodIn wsX5_burnt wsX5_firstOtherwise := goodIn_r _ [48, 8, 2, 49, 50, 51, 21, 52, 42, 23, 33, 39, 41, 53, 54, 55, 56, 44, 34, 35, 57, 58, 59, 60, 61, 62, 63, 64, 65, 66, 67, 68, 37, 36, 69, 70, 71, 72, 73, 74, 75, 76, 77, 78, 79, 80, 81, 82, 83, 84, 85, 86, 6, 87, 88, 89, 90, 91, 92, 93, 94, 95, 96, 97, 98, 99, 100, 101, 102, 103, 104, 105, 40, 38, 106, 107, 108, 109, 110, 111, 112, 113, 114, 115, 116, 117, 118, 134, 135, 136, 119, 120, 121, 122, 123, 124, 125, 126, 127, 128, 129, 130, 131, 132, 133, 137, 138, 139, 140] (by decide +kernel) (by decide +kernel)
set_option maxRecDepth 20000 in
theorem gX5_burnt_X5_firstOtherwise : GoodIn wsX5_burnt (wsV RX5 233 RX5 yX5_firstOtherwise wsX5_firstOtherwise) := goodIn_app (goodIn_of _ (by decide +kernel)) ggX5_burnt_X5_firstOtherwise
theorem dX5_burnt_0 : decode cX5_burnt 0 = .ok (.aload_n 0, 1) := by decide +kernel
theorem dX5_burnt_1 : decode cX5_burnt 1 = .ok (.iload_n 1, 1) := by decide +kernel
theorem dX5_burnt_2 : decode cX5_burnt 2 = .ok (.invokevirtual 230, 3) := by decide +kernel
theorem dX5_burnt_5 : decode cX5_burnt 5 = .ok (.istore_n 2, 1) := by decide +kernel
theorem dX5_burnt_6 : decode cX5_burnt 6 = .ok (.iload_n 2, 1) := by decide +kernel
theorem dX5_burnt_7 : decode cX5_burnt 7 = .ok (.ifCond .eq 5, 3) := by decide +kernel
theorem dX5_burnt_10 : decode cX5_burnt 10 = .ok (.iload_n 2, 1) := by decide +kernel
theorem dX5_burnt_11 : decode cX5_burnt 11 = .ok (.ireturn, 1) := by decide +kernel
theorem dX5_burnt_12 : decode cX5_burnt 12 = .ok (.iconst 0, 1) := by decide +kernel
theorem dX5_burnt_13 : decode cX5_burnt 13 = .ok (.istore_n 3, 1) := by decide +kernel
theorem dX5_burnt_14 : decode cX5_burnt 14 = .ok (.iconst 0, 1) := by decide +kernel
theorem dX5_burnt_15 : decode cX5_burnt 15 = .ok (.istore 4, 2) := by decide +kernel
theorem dX5_burnt_17 : decode cX5_burnt 17 = .ok (.iload 4, 2) := by decide +kernel
theorem dX5_burnt_19 : decode cX5_burnt 19 = .ok (.bipush 8, 2) := by decide +kernel
theorem dX5_burnt_21 : decode cX5_burnt 21 = .ok (.if_icmp .ge 63, 3) := by decide +kernel
theorem dX5_burnt_24 : decode cX5_burnt 24 = .ok (.aload_n 0, 1) := by decide +kernel
theorem dX5_burnt_25 : decode cX5_burnt 25 = .ok (.getfield 44, 3) := by decide +kernel
theorem dX5_burnt_28 : decode cX5_burnt 28 = .ok (.iload 4, 2) := by decide +kernel
theorem dX5_burnt_30 : decode cX5_burnt 30 = .ok (.invokevirtual 163, 3) := by decide +kernel
theorem dX5_burnt_33 : decode cX5_burnt 33 = .ok (.ifCond .eq 45, 3) := by decide +kernel
theorem dX5_burnt_36 : decode cX5_burnt 36 = .ok (.aload_n 0, 1) := by decide +kernel
theorem dX5_burnt_37 : decode cX5_burnt 37 = .ok (.getfield 51, 3) := by decide +kernel
theorem dX5_burnt_40 : decode cX5_burnt 40 = .ok (.aload_n 0, 1) := by decide +kernel
theorem dX5_burnt_41 : decode cX5_burnt 41 = .ok (.getfield 44, 3) := by decide +kernel
theorem dX5_burnt_44 : decode cX5_burnt 44 = .ok (.invokevirtual 184, 3) := by decide +kernel
theorem dX5_burnt_47 : decode cX5_burnt 47 = .ok (.aload_n 0, 1) := by decide +kernel
theorem dX5_burnt_48 : decode cX5_burnt 48 = .ok (.getfield 51, 3) := by decide +kernel
theorem dX5_burnt_51 : decode cX5_burnt 51 = .ok (.getfield 166, 3) := by decide +kernel
theorem dX5_burnt_54 : decode cX5_burnt 54 = .ok (.iload 4, 2) := by decide +kernel
theorem dX5_burnt_56 : decode cX5_burnt 56 = .ok (.iconst (-1), 1) := by decide +kernel
theorem dX5_burnt_57 : decode cX5_burnt 57 = .ok (.iastore, 1) := by decide +kernel
theorem dX5_burnt_58 : decode cX5_burnt 58 = .ok (.iload_n 3, 1) := by decide +kernel
theorem dX5_burnt_59 : decode cX5_burnt 59 = .ok (.aload_n 0, 1) := by decide +kernel
theorem dX5_burnt_60 : decode cX5_burnt 60 = .ok (.iload_n 1, 1) := by decide +kernel
theorem dX5_burnt_61 : decode cX5_burnt 61 = .ok (.invokevirtual 233, 3) := by decide +kernel
theorem dX5_burnt_64 : decode cX5_burnt 64 = .ok (.iconst (-1), 1) := by decide +kernel
theorem dX5_burnt_65 : decode cX5_burnt 65 = .ok (.if_icmp .ne 10, 3) := by decide +kernel
theorem dX5_burnt_68 : decode cX5_burnt 68 = .ok (.iconst 1, 1) := by decide +kernel
theorem dX5_burnt_69 : decode cX5_burnt 69 = .ok (.iload 4, 2) := by decide +kernel
theorem dX5_burnt_71 : decode cX5_burnt 71 = .ok (.ishl, 1) := by decide +kernel
theorem dX5_burnt_72 : decode cX5_burnt 72 = .ok (.goto 4, 3) := by decide +kernel
theorem dX5_burnt_75 : decode cX5_burnt 75 = .ok (.iconst 0, 1) := by decide +kernel
theorem dX5_burnt_76 : decode cX5_burnt 76 = .ok (.ior, 1) := by decide +kernel
theorem dX5_burnt_77 : decode cX5_burnt 77 = .ok (.istore_n 3, 1) := by decide +kernel
theorem dX5_burnt_78 : decode cX5_burnt 78 = .ok (.iinc 4 1, 3) := by decide +kernel
theorem dX5_burnt_81 : decode cX5_burnt 81 = .ok (.goto (-64), 3) := by decide +kernel
theorem dX5_burnt_84 : decode cX5_burnt 84 = .ok (.iload_n 3, 1) := by decide +kernel
theorem dX5_burnt_85 : decode cX5_burnt 85 = .ok (.ireturn, 1) := by decide +kernel
set_option maxRecDepth 20000 in
theorem ggX5_laws_X5_refusalOfTale : GoodIn wsX5_laws wsX5_refusalOfTale := goodIn_r _ [9, 10, 11, 12, 8, 13, 14, 15, 16, 17, 18, 19, 106, 107, 108, 109, 110, 111, 112, 113, 114, 115, 116, 132, 133, 134] (by decide +kernel) (by decide +kernel)
set_option maxRecDepth 20000 in
theorem gX5_laws_X5_refusalOfTale : GoodIn wsX5_laws (wsV RX5 230 RX5 yX5_refusalOfTale wsX5_refusalOfTale) := goodIn_app (goodIn_of _ (by decide +kernel)) ggX5_laws_X5_refusalOfTale
set_option maxRecDepth 20000 in
theorem ggX5_laws_X0_become : GoodIn wsX5_laws wsX0_become := goodIn_r _ [24, 25, 26, 27, 28, 29, 30, 31, 32, 33, 34, 35, 36, 37, 38, 39, 40, 41, 42, 117, 118, 119, 120, 121, 122, 123, 124, 125, 126, 127, 128, 129, 130, 131] (by decide +kernel) (by decide +kernel)
set_option maxRecDepth 20000 in
theorem gX5_laws_X0_become : GoodIn wsX5_laws (wsV RX5 184 RX0 yX0_become wsX0_become) := goodIn_app (goodIn_of _ (by decide +kernel)) ggX5_laws_X0_become
set_option maxRecDepth 20000 in
theorem ggX5_laws_X5_firstOtherwise : GoodIn wsX5_laws wsX5_firstOtherwise := goodIn_r _ [46, 10, 2, 47, 48, 49, 23, 50, 40, 36, 30, 37, 39, 51, 52, 53, 54, 42, 31, 32, 55, 56, 57, 58, 59, 60, 61, 62, 63, 64, 65, 66, 34, 33, 67, 68, 69, 70, 71, 72, 73, 74, 75, 76, 77, 78, 79, 80, 81, 82, 83, 84, 8, 85, 86, 87, 88, 89, 90, 91, 92, 93, 94, 95, 96, 97, 98, 99, 100, 101, 102, 103, 38, 35, 104, 105, 106, 107, 108, 109, 110, 111, 112, 113, 114, 115, 116, 132, 133, 134, 117, 118, 119, 120, 121, 122, 123, 124, 125, 126, 127, 128, 129, 130, 131, 135, 136, 137, 138] (by decide +kernel) (by decide +kernel)
set_option maxRecDepth 20000 in
theorem gX5_laws_X5_firstOtherwise : GoodIn wsX5_laws (wsV RX5 233 RX5 yX5_firstOtherwise wsX5_firstOtherwise) := goodIn_app (goodIn_of _ (by decide +kernel)) ggX5_laws_X5_firstOtherwise
theorem dX5_laws_0 : decode cX5_laws 0 = .ok (.aload_n 0, 1) := by decide +kernel
theorem dX5_laws_1 : decode cX5_laws 1 = .ok (.iload_n 1, 1) := by decide +kernel
theorem dX5_laws_2 : decode cX5_laws 2 = .ok (.invokevirtual 230, 3) := by decide +kernel
theorem dX5_laws_5 : decode cX5_laws 5 = .ok (.istore_n 2, 1) := by decide +kernel
theorem dX5_laws_6 : decode cX5_laws 6 = .ok (.iload_n 2, 1) := by decide +kernel
theorem dX5_laws_7 : decode cX5_laws 7 = .ok (.ifCond .eq 5, 3) := by decide +kernel
theorem dX5_laws_10 : decode cX5_laws 10 = .ok (.iload_n 2, 1) := by decide +kernel
theorem dX5_laws_11 : decode cX5_laws 11 = .ok (.ireturn, 1) := by decide +kernel
theorem dX5_laws_12 : decode cX5_laws 12 = .ok (.iconst 0, 1) := by decide +kernel
theorem dX5_laws_13 : decode cX5_laws 13 = .ok (.istore_n 3, 1) := by decide +kernel
theorem dX5_laws_14 : decode cX5_laws 14 = .ok (.iconst 0, 1) := by decide +kernel
theorem dX5_laws_15 : decode cX5_laws 15 = .ok (.istore 4, 2) := by decide +kernel
theorem dX5_laws_17 : decode cX5_laws 17 = .ok (.iload 4, 2) := by decide +kernel
theorem dX5_laws_19 : decode cX5_laws 19 = .ok (.aload_n 0, 1) := by decide +kernel
theorem dX5_laws_20 : decode cX5_laws 20 = .ok (.getfield 37, 3) := by decide +kernel
theorem dX5_laws_23 : decode cX5_laws 23 = .ok (.if_icmp .ge 54, 3) := by decide +kernel
theorem dX5_laws_26 : decode cX5_laws 26 = .ok (.aload_n 0, 1) := by decide +kernel
theorem dX5_laws_27 : decode cX5_laws 27 = .ok (.getfield 51, 3) := by decide +kernel
theorem dX5_laws_30 : decode cX5_laws 30 = .ok (.aload_n 0, 1) := by decide +kernel
theorem dX5_laws_31 : decode cX5_laws 31 = .ok (.getfield 44, 3) := by decide +kernel
theorem dX5_laws_34 : decode cX5_laws 34 = .ok (.invokevirtual 184, 3) := by decide +kernel
theorem dX5_laws_37 : decode cX5_laws 37 = .ok (.aload_n 0, 1) := by decide +kernel
theorem dX5_laws_38 : decode cX5_laws 38 = .ok (.getfield 51, 3) := by decide +kernel
theorem dX5_laws_41 : decode cX5_laws 41 = .ok (.aload_n 0, 1) := by decide +kernel
theorem dX5_laws_42 : decode cX5_laws 42 = .ok (.getfield 11, 3) := by decide +kernel
theorem dX5_laws_45 : decode cX5_laws 45 = .ok (.iload 4, 2) := by decide +kernel
theorem dX5_laws_47 : decode cX5_laws 47 = .ok (.aaload, 1) := by decide +kernel
theorem dX5_laws_48 : decode cX5_laws 48 = .ok (.putfield 65, 3) := by decide +kernel
theorem dX5_laws_51 : decode cX5_laws 51 = .ok (.iload_n 3, 1) := by decide +kernel
theorem dX5_laws_52 : decode cX5_laws 52 = .ok (.aload_n 0, 1) := by decide +kernel
theorem dX5_laws_53 : decode cX5_laws 53 = .ok (.iload_n 1, 1) := by decide +kernel
theorem dX5_laws_54 : decode cX5_laws 54 = .ok (.invokevirtual 233, 3) := by decide +kernel
theorem dX5_laws_57 : decode cX5_laws 57 = .ok (.iconst (-1), 1) := by decide +kernel
theorem dX5_laws_58 : decode cX5_laws 58 = .ok (.if_icmp .ne 10, 3) := by decide +kernel
theorem dX5_laws_61 : decode cX5_laws 61 = .ok (.iconst 1, 1) := by decide +kernel
theorem dX5_laws_62 : decode cX5_laws 62 = .ok (.iload 4, 2) := by decide +kernel
theorem dX5_laws_64 : decode cX5_laws 64 = .ok (.ishl, 1) := by decide +kernel
theorem dX5_laws_65 : decode cX5_laws 65 = .ok (.goto 4, 3) := by decide +kernel
theorem dX5_laws_68 : decode cX5_laws 68 = .ok (.iconst 0, 1) := by decide +kernel
theorem dX5_laws_69 : decode cX5_laws 69 = .ok (.ior, 1) := by decide +kernel
theorem dX5_laws_70 : decode cX5_laws 70 = .ok (.istore_n 3, 1) := by decide +kernel
theorem dX5_laws_71 : decode cX5_laws 71 = .ok (.iinc 4 1, 3) := by decide +kernel
theorem dX5_laws_74 : decode cX5_laws 74 = .ok (.goto (-57), 3) := by decide +kernel
theorem dX5_laws_77 : decode cX5_laws 77 = .ok (.iload_n 3, 1) := by decide +kernel
theorem dX5_laws_78 : decode cX5_laws 78 = .ok (.ireturn, 1) := by decide +kernel
set_option maxRecDepth 20000 in
theorem ggX5_film_X5_isBelow : GoodIn wsX5_film wsX5_isBelow := goodIn_r _ [7] (by decide +kernel) (by decide +kernel)
set_option maxRecDepth 20000 in
theorem gX5_film_X5_isBelow : GoodIn wsX5_film (va_wsS RX5 100 yX5_isBelow wsX5_isBelow) := goodIn_app (goodIn_of _ (by decide +kernel)) ggX5_film_X5_isBelow
set_option maxRecDepth 20000 in
theorem ggX5_film_X3_begin : GoodIn wsX5_film wsX3_begin := goodIn_r _ [12, 13, 14, 15, 16, 17, 18, 19, 132, 133, 134] (by decide +kernel) (by decide +kernel)
set_option maxRecDepth 20000 in
theorem gX5_film_X3_begin : GoodIn wsX5_film (wsV RX5 244 RX3 yX3_begin wsX3_begin) := goodIn_app (goodIn_of _ (by decide +kernel)) ggX5_film_X3_begin
set_option maxRecDepth 20000 in
theorem ggX5_film_X0_become : GoodIn wsX5_film wsX0_become := goodIn_r _ [24, 25, 26, 27, 28, 29, 30, 31, 32, 33, 34, 35, 36, 37, 38, 39, 40, 41, 42, 117, 118, 119, 120, 121, 122, 123, 124, 125, 126, 127, 128, 129, 130, 131] (by decide +kernel) (by decide +kernel)
set_option maxRecDepth 20000 in
theorem gX5_film_X0_become : GoodIn wsX5_film (wsV RX5 184 RX0 yX0_become wsX0_become) := goodIn_app (goodIn_of _ (by decide +kernel)) ggX5_film_X0_become
set_option maxRecDepth 20000 in
theorem ggX5_film_X0_passHours : GoodIn wsX5_film wsX0_passHours := goodIn_r _ [46, 40, 36, 30, 37, 39, 47, 48, 49, 23, 50, 42, 31, 32, 51, 52, 53, 54, 55, 56, 57, 58, 59, 60, 61, 62, 34, 33, 63, 64, 65, 66, 67, 68, 69, 70, 71, 72, 73, 74, 75, 76, 77, 78, 79, 80, 6, 81, 82, 83, 84, 85, 86, 87, 88, 89, 90, 91, 92, 93, 94, 95, 96, 97, 98, 99, 38, 35, 100, 117, 118, 119, 120, 121, 122, 123, 124, 125, 126, 127, 128, 129, 130, 131, 135, 136, 137, 138] (by decide +kernel) (by decide +kernel)
set_option maxRecDepth 20000 in
theorem gX5_film_X0_passHours : GoodIn wsX5_film (wsV RX5 181 RX0 yX0_passHours wsX0_passHours) := goodIn_app (goodIn_of _ (by decide +kernel)) ggX5_film_X0_passHours
set_option maxRecDepth 20000 in
theorem ggX5_film_J6_bitCount_0f7a4 : GoodIn wsX5_film wsJ6_bitCount_0f7a4 := goodIn_r _ [66, 67, 68, 69] (by decide +kernel) (by decide +kernel)
set_option maxRecDepth 20000 in
theorem gX5_film_J6_bitCount_0f7a4 : GoodIn wsX5_film (va_wsS RX5 196 yJ6_bitCount_0f7a4 wsJ6_bitCount_0f7a4) := goodIn_app (goodIn_of _ (by decide +kernel)) ggX5_film_J6_bitCount_0f7a4
set_option maxRecDepth 20000 in
theorem ggX5_film_X3_become : GoodIn wsX5_film wsX3_become := goodIn_r _ [105, 15, 13, 132, 133, 134] (by decide +kernel) (by decide +kernel)
set_option maxRecDepth 20000 in
theorem gX5_film_X3_become : GoodIn wsX5_film (wsV RX5 248 RX3 yX3_become wsX3_become) := goodIn_app (goodIn_of _ (by decide +kernel)) ggX5_film_X3_become
theorem dX5_film_0 : decode cX5_film 0 = .ok (.iload_n 1, 1) := by decide +kernel
theorem dX5_film_1 : decode cX5_film 1 = .ok (.iconst 4, 1) := by decide +kernel
theorem dX5_film_2 : decode cX5_film 2 = .ok (.invokestatic 100, 3) := by decide +kernel
theorem dX5_film_5 : decode cX5_film 5 = .ok (.ifCond .ne 6, 3) := by decide +kernel
theorem dX5_film_8 : decode cX5_film 8 = .ok (.bipush (-2), 2) := by decide +kernel
theorem dX5_film_10 : decode cX5_film 10 = .ok (.ireturn, 1) := by decide +kernel
theorem dX5_film_11 : decode cX5_film 11 = .ok (.iload_n 2, 1) := by decide +kernel
theorem dX5_film_12 : decode cX5_film 12 = .ok (.bipush 21, 2) := by decide +kernel
theorem dX5_film_14 : decode cX5_film 14 = .ok (.invokestatic 100, 3) := by decide +kernel
theorem dX5_film_17 : decode cX5_film 17 = .ok (.ifCond .ne 6, 3) := by decide +kernel
theorem dX5_film_20 : decode cX5_film 20 = .ok (.bipush (-7), 2) := by decide +kernel
theorem dX5_film_22 : decode cX5_film 22 = .ok (.ireturn, 1) := by decide +kernel
theorem dX5_film_23 : decode cX5_film 23 = .ok (.aload_n 0, 1) := by decide +kernel
theorem dX5_film_24 : decode cX5_film 24 = .ok (.getfield 24, 3) := by decide +kernel
theorem dX5_film_27 : decode cX5_film 27 = .ok (.iload_n 1, 1) := by decide +kernel
theorem dX5_film_28 : decode cX5_film 28 = .ok (.aaload, 1) := by decide +kernel
theorem dX5_film_29 : decode cX5_film 29 = .ok (.astore_n 3, 1) := by decide +kernel
theorem dX5_film_30 : decode cX5_film 30 = .ok (.aload_n 3, 1) := by decide +kernel
theorem dX5_film_31 : decode cX5_film 31 = .ok (.iconst 0, 1) := by decide +kernel
theorem dX5_film_32 : decode cX5_film 32 = .ok (.iload_n 2, 1) := by decide +kernel
theorem dX5_film_33 : decode cX5_film 33 = .ok (.invokevirtual 244, 3) := by decide +kernel
theorem dX5_film_36 : decode cX5_film 36 = .ok (.aload_n 0, 1) := by decide +kernel
theorem dX5_film_37 : decode cX5_film 37 = .ok (.getfield 51, 3) := by decide +kernel
theorem dX5_film_40 : decode cX5_film 40 = .ok (.aload_n 0, 1) := by decide +kernel
theorem dX5_film_41 : decode cX5_film 41 = .ok (.getfield 44, 3) := by decide +kernel
theorem dX5_film_44 : decode cX5_film 44 = .ok (.invokevirtual 184, 3) := by decide +kernel
theorem dX5_film_47 : decode cX5_film 47 = .ok (.iconst 0, 1) := by decide +kernel
theorem dX5_film_48 : decode cX5_film 48 = .ok (.istore 4, 2) := by decide +kernel
theorem dX5_film_50 : decode cX5_film 50 = .ok (.iload 4, 2) := by decide +kernel
theorem dX5_film_52 : decode cX5_film 52 = .ok (.iload_n 2, 1) := by decide +kernel
theorem dX5_film_53 : decode cX5_film 53 = .ok (.if_icmp .ge 34, 3) := by decide +kernel
theorem dX5_film_56 : decode cX5_film 56 = .ok (.aload_n 0, 1) := by decide +kernel
theorem dX5_film_57 : decode cX5_film 57 = .ok (.getfield 51, 3) := by decide +kernel
theorem dX5_film_60 : decode cX5_film 60 = .ok (.iconst 1, 1) := by decide +kernel
theorem dX5_film_61 : decode cX5_film 61 = .ok (.invokevirtual 181, 3) := by decide +kernel
theorem dX5_film_64 : decode cX5_film 64 = .ok (.pop, 1) := by decide +kernel
theorem dX5_film_65 : decode cX5_film 65 = .ok (.aload_n 3, 1) := by decide +kernel
theorem dX5_film_66 : decode cX5_film 66 = .ok (.iload 4, 2) := by decide +kernel
theorem dX5_film_68 : decode cX5_film 68 = .ok (.aload_n 0, 1) := by decide +kernel
theorem dX5_film_69 : decode cX5_film 69 = .ok (.getfield 51, 3) := by decide +kernel
theorem dX5_film_72 : decode cX5_film 72 = .ok (.getfield 94, 3) := by decide +kernel
theorem dX5_film_75 : decode cX5_film 75 = .ok (.invokestatic 196, 3) := by decide +kernel
theorem dX5_film_78 : decode cX5_film 78 = .ok (.invokevirtual 248, 3) := by decide +kernel
theorem dX5_film_81 : decode cX5_film 81 = .ok (.iinc 4 1, 3) := by decide +kernel
theorem dX5_film_84 : decode cX5_film 84 = .ok (.goto (-34), 3) := by decide +kernel
theorem dX5_film_87 : decode cX5_film 87 = .ok (.iload_n 2, 1) := by decide +kernel
theorem dX5_film_88 : decode cX5_film 88 = .ok (.ireturn, 1) := by decide +kernel
set_option maxRecDepth 20000 in
theorem ggX5_refusalOfTale_X5_isBelow : GoodIn wsX5_refusalOfTale wsX5_isBelow := goodIn_r _ [5] (by decide +kernel) (by decide +kernel)
set_option maxRecDepth 20000 in
theorem gX5_refusalOfTale_X5_isBelow : GoodIn wsX5_refusalOfTale (va_wsS RX5 100 yX5_isBelow wsX5_isBelow) := goodIn_app (goodIn_of _ (by decide +kernel)) ggX5_refusalOfTale_X5_isBelow
set_option maxRecDepth 20000 in
theorem ggX5_refusalOfTale_X3_isMissing : GoodIn wsX5_refusalOfTale wsX3_isMissing := goodIn_r _ [10, 11, 23, 24, 25] (by decide +kernel) (by decide +kernel)
set_option maxRecDepth 20000 in
theorem gX5_refusalOfTale_X3_isMissing : GoodIn wsX5_refusalOfTale (wsV RX5 250 RX3 yX3_isMissing wsX3_isMissing) := goodIn_app (goodIn_of _ (by decide +kernel)) ggX5_refusalOfTale_X3_isMissing
theorem dX5_refusalOfTale_0 : decode cX5_refusalOfTale 0 = .ok (.iload_n 1, 1) := by decide +kernel
theorem dX5_refusalOfTale_1 : decode cX5_refusalOfTale 1 = .ok (.iconst 4, 1) := by decide +kernel
theorem dX5_refusalOfTale_2 : decode cX5_refusalOfTale 2 = .ok (.invokestatic 100, 3) := by decide +kernel
theorem dX5_refusalOfTale_5 : decode cX5_refusalOfTale 5 = .ok (.ifCond .ne 6, 3) := by decide +kernel
theorem dX5_refusalOfTale_8 : decode cX5_refusalOfTale 8 = .ok (.bipush (-2), 2) := by decide +kernel
theorem dX5_refusalOfTale_10 : decode cX5_refusalOfTale 10 = .ok (.ireturn, 1) := by decide +kernel
theorem dX5_refusalOfTale_11 : decode cX5_refusalOfTale 11 = .ok (.aload_n 0, 1) := by decide +kernel
theorem dX5_refusalOfTale_12 : decode cX5_refusalOfTale 12 = .ok (.getfield 24, 3) := by decide +kernel
theorem dX5_refusalOfTale_15 : decode cX5_refusalOfTale 15 = .ok (.iload_n 1, 1) := by decide +kernel
theorem dX5_refusalOfTale_16 : decode cX5_refusalOfTale 16 = .ok (.aaload, 1) := by decide +kernel
theorem dX5_refusalOfTale_17 : decode cX5_refusalOfTale 17 = .ok (.invokevirtual 250, 3) := by decide +kernel
theorem dX5_refusalOfTale_20 : decode cX5_refusalOfTale 20 = .ok (.ifCond .eq 6, 3) := by decide +kernel
theorem dX5_refusalOfTale_23 : decode cX5_refusalOfTale 23 = .ok (.bipush (-11), 2) := by decide +kernel
theorem dX5_refusalOfTale_25 : decode cX5_refusalOfTale 25 = .ok (.ireturn, 1) := by decide +kernel
theorem dX5_refusalOfTale_26 : decode cX5_refusalOfTale 26 = .ok (.aload_n 0, 1) := by decide +kernel
theorem dX5_refusalOfTale_27 : decode cX5_refusalOfTale 27 = .ok (.getfield 24, 3) := by decide +kernel
theorem dX5_refusalOfTale_30 : decode cX5_refusalOfTale 30 = .ok (.iload_n 1, 1) := by decide +kernel
theorem dX5_refusalOfTale_31 : decode cX5_refusalOfTale 31 = .ok (.aaload, 1) := by decide +kernel
theorem dX5_refusalOfTale_32 : decode cX5_refusalOfTale 32 = .ok (.getfield 254, 3) := by decide +kernel
theorem dX5_refusalOfTale_35 : decode cX5_refusalOfTale 35 = .ok (.bipush 20, 2) := by decide +kernel
theorem dX5_refusalOfTale_37 : decode cX5_refusalOfTale 37 = .ok (.if_icmp .le 8, 3) := by decide +kernel
theorem dX5_refusalOfTale_40 : decode cX5_refusalOfTale 40 = .ok (.bipush (-2), 2) := by decide +kernel
theorem dX5_refusalOfTale_42 : decode cX5_refusalOfTale 42 = .ok (.goto 4, 3) := by decide +kernel
theorem dX5_refusalOfTale_45 : decode cX5_refusalOfTale 45 = .ok (.iconst 0, 1) := by decide +kernel
theorem dX5_refusalOfTale_46 : decode cX5_refusalOfTale 46 = .ok (.ireturn, 1) := by decide +kernel
set_option maxRecDepth 20000 in
theorem ggX5_refusalOfFitting_X5_refusalOfTale : GoodIn wsX5_refusalOfFitting wsX5_refusalOfTale := goodIn_r _ [5, 6, 7, 8, 4, 9, 10, 11, 12, 13, 14, 15, 16, 17, 18, 19, 20, 21, 22, 23, 24, 25, 26, 27, 28, 29] (by decide +kernel) (by decide +kernel)
set_option maxRecDepth 20000 in
theorem gX5_refusalOfFitting_X5_refusalOfTale : GoodIn wsX5_refusalOfFitting (wsV RX5 230 RX5 yX5_refusalOfTale wsX5_refusalOfTale) := goodIn_app (goodIn_of _ (by decide +kernel)) ggX5_refusalOfFitting_X5_refusalOfTale
set_option maxRecDepth 20000 in
theorem ggX5_refusalOfFitting_X5_isBelow : GoodIn wsX5_refusalOfFitting wsX5_isBelow := goodIn_r _ [9] (by decide +kernel) (by decide +kernel)
set_option maxRecDepth 20000 in
theorem gX5_refusalOfFitting_X5_isBelow : GoodIn wsX5_refusalOfFitting (va_wsS RX5 100 yX5_isBelow wsX5_isBelow) := goodIn_app (goodIn_of _ (by decide +kernel)) ggX5_refusalOfFitting_X5_isBelow
theorem dX5_refusalOfFitting_0 : decode cX5_refusalOfFitting 0 = .ok (.aload_n 0, 1) := by decide +kernel
theorem dX5_refusalOfFitting_1 : decode cX5_refusalOfFitting 1 = .ok (.iload_n 1, 1) := by decide +kernel
theorem dX5_refusalOfFitting_2 : decode cX5_refusalOfFitting 2 = .ok (.invokevirtual 230, 3) := by decide +kernel
theorem dX5_refusalOfFitting_5 : decode cX5_refusalOfFitting 5 = .ok (.istore 4, 2) := by decide +kernel
theorem dX5_refusalOfFitting_7 : decode cX5_refusalOfFitting 7 = .ok (.iload 4, 2) := by decide +kernel
theorem dX5_refusalOfFitting_9 : decode cX5_refusalOfFitting 9 = .ok (.ifCond .eq 6, 3) := by decide +kernel
theorem dX5_refusalOfFitting_12 : decode cX5_refusalOfFitting 12 = .ok (.iload 4, 2) := by decide +kernel
theorem dX5_refusalOfFitting_14 : decode cX5_refusalOfFitting 14 = .ok (.ireturn, 1) := by decide +kernel
theorem dX5_refusalOfFitting_15 : decode cX5_refusalOfFitting 15 = .ok (.iload_n 2, 1) := by decide +kernel
theorem dX5_refusalOfFitting_16 : decode cX5_refusalOfFitting 16 = .ok (.ifCond .ne 6, 3) := by decide +kernel
theorem dX5_refusalOfFitting_19 : decode cX5_refusalOfFitting 19 = .ok (.bipush (-5), 2) := by decide +kernel
theorem dX5_refusalOfFitting_21 : decode cX5_refusalOfFitting 21 = .ok (.ireturn, 1) := by decide +kernel
theorem dX5_refusalOfFitting_22 : decode cX5_refusalOfFitting 22 = .ok (.iload_n 3, 1) := by decide +kernel
theorem dX5_refusalOfFitting_23 : decode cX5_refusalOfFitting 23 = .ok (.iconst 2, 1) := by decide +kernel
theorem dX5_refusalOfFitting_24 : decode cX5_refusalOfFitting 24 = .ok (.invokestatic 100, 3) := by decide +kernel
theorem dX5_refusalOfFitting_27 : decode cX5_refusalOfFitting 27 = .ok (.ifCond .eq 7, 3) := by decide +kernel
theorem dX5_refusalOfFitting_30 : decode cX5_refusalOfFitting 30 = .ok (.iconst 0, 1) := by decide +kernel
theorem dX5_refusalOfFitting_31 : decode cX5_refusalOfFitting 31 = .ok (.goto 5, 3) := by decide +kernel
theorem dX5_refusalOfFitting_34 : decode cX5_refusalOfFitting 34 = .ok (.bipush (-7), 2) := by decide +kernel
theorem dX5_refusalOfFitting_36 : decode cX5_refusalOfFitting 36 = .ok (.ireturn, 1) := by decide +kernel
set_option maxRecDepth 20000 in
theorem ggX5_firstOtherwise_X0_passHours : GoodIn wsX5_firstOtherwise wsX0_passHours := goodIn_r _ [7, 8, 9, 10, 11, 12, 13, 14, 15, 6, 16, 17, 18, 19, 20, 21, 22, 23, 24, 25, 26, 27, 28, 29, 30, 31, 32, 33, 34, 35, 36, 37, 38, 39, 40, 41, 42, 43, 44, 45, 46, 47, 48, 49, 50, 51, 52, 53, 54, 55, 56, 57, 58, 59, 60, 61, 62, 63, 64, 65, 66, 67, 68, 69, 70, 71, 72, 73, 74, 90, 91, 92, 93, 94, 95, 96, 97, 98, 99, 100, 101, 102, 103, 104, 105, 106, 107, 108] (by decide +kernel) (by decide +kernel)
set_option maxRecDepth 20000 in
theorem gX5_firstOtherwise_X0_passHours : GoodIn wsX5_firstOtherwise (wsV RX5 181 RX0 yX0_passHours wsX0_passHours) := goodIn_app (goodIn_of _ (by decide +kernel)) ggX5_firstOtherwise_X0_passHours
set_option maxRecDepth 20000 in
theorem ggX5_firstOtherwise_J6_bitCount_0f7a4 : GoodIn wsX5_firstOtherwise wsJ6_bitCount_0f7a4 := goodIn_r _ [37, 38, 39, 40] (by decide +kernel) (by decide +kernel)
set_option maxRecDepth 20000 in
theorem gX5_firstOtherwise_J6_bitCount_0f7a4 : GoodIn wsX5_firstOtherwise (va_wsS RX5 196 yJ6_bitCount_0f7a4 wsJ6_bitCount_0f7a4) := goodIn_app (goodIn_of _ (by decide +kernel)) ggX5_firstOtherwise_J6_bitCount_0f7a4
theorem dX5_firstOtherwise_0 : decode cX5_firstOtherwise 0 = .ok (.aload_n 0, 1) := by decide +kernel
theorem dX5_firstOtherwise_1 : decode cX5_firstOtherwise 1 = .ok (.getfield 24, 3) := by decide +kernel
theorem dX5_firstOtherwise_4 : decode cX5_firstOtherwise 4 = .ok (.iload_n 1, 1) := by decide +kernel
theorem dX5_firstOtherwise_5 : decode cX5_firstOtherwise 5 = .ok (.aaload, 1) := by decide +kernel
theorem dX5_firstOtherwise_6 : decode cX5_firstOtherwise 6 = .ok (.astore_n 2, 1) := by decide +kernel
theorem dX5_firstOtherwise_7 : decode cX5_firstOtherwise 7 = .ok (.iconst 0, 1) := by decide +kernel
theorem dX5_firstOtherwise_8 : decode cX5_firstOtherwise 8 = .ok (.istore_n 3, 1) := by decide +kernel
theorem dX5_firstOtherwise_9 : decode cX5_firstOtherwise 9 = .ok (.iload_n 3, 1) := by decide +kernel
theorem dX5_firstOtherwise_10 : decode cX5_firstOtherwise 10 = .ok (.aload_n 2, 1) := by decide +kernel
theorem dX5_firstOtherwise_11 : decode cX5_firstOtherwise 11 = .ok (.getfield 254, 3) := by decide +kernel
theorem dX5_firstOtherwise_14 : decode cX5_firstOtherwise 14 = .ok (.if_icmp .ge 39, 3) := by decide +kernel
theorem dX5_firstOtherwise_17 : decode cX5_firstOtherwise 17 = .ok (.aload_n 0, 1) := by decide +kernel
theorem dX5_firstOtherwise_18 : decode cX5_firstOtherwise 18 = .ok (.getfield 51, 3) := by decide +kernel
theorem dX5_firstOtherwise_21 : decode cX5_firstOtherwise 21 = .ok (.iconst 1, 1) := by decide +kernel
theorem dX5_firstOtherwise_22 : decode cX5_firstOtherwise 22 = .ok (.invokevirtual 181, 3) := by decide +kernel
theorem dX5_firstOtherwise_25 : decode cX5_firstOtherwise 25 = .ok (.pop, 1) := by decide +kernel
theorem dX5_firstOtherwise_26 : decode cX5_firstOtherwise 26 = .ok (.aload_n 0, 1) := by decide +kernel
theorem dX5_firstOtherwise_27 : decode cX5_firstOtherwise 27 = .ok (.getfield 51, 3) := by decide +kernel
theorem dX5_firstOtherwise_30 : decode cX5_firstOtherwise 30 = .ok (.getfield 94, 3) := by decide +kernel
theorem dX5_firstOtherwise_33 : decode cX5_firstOtherwise 33 = .ok (.invokestatic 196, 3) := by decide +kernel
theorem dX5_firstOtherwise_36 : decode cX5_firstOtherwise 36 = .ok (.aload_n 2, 1) := by decide +kernel
theorem dX5_firstOtherwise_37 : decode cX5_firstOtherwise 37 = .ok (.getfield 255, 3) := by decide +kernel
theorem dX5_firstOtherwise_40 : decode cX5_firstOtherwise 40 = .ok (.iload_n 3, 1) := by decide +kernel
theorem dX5_firstOtherwise_41 : decode cX5_firstOtherwise 41 = .ok (.iaload, 1) := by decide +kernel
theorem dX5_firstOtherwise_42 : decode cX5_firstOtherwise 42 = .ok (.if_icmp .eq 5, 3) := by decide +kernel
theorem dX5_firstOtherwise_45 : decode cX5_firstOtherwise 45 = .ok (.iload_n 3, 1) := by decide +kernel
theorem dX5_firstOtherwise_46 : decode cX5_firstOtherwise 46 = .ok (.ireturn, 1) := by decide +kernel
theorem dX5_firstOtherwise_47 : decode cX5_firstOtherwise 47 = .ok (.iinc 3 1, 3) := by decide +kernel
theorem dX5_firstOtherwise_50 : decode cX5_firstOtherwise 50 = .ok (.goto (-41), 3) := by decide +kernel
theorem dX5_firstOtherwise_53 : decode cX5_firstOtherwise 53 = .ok (.iconst (-1), 1) := by decide +kernel
theorem dX5_firstOtherwise_54 : decode cX5_firstOtherwise 54 = .ok (.ireturn, 1) := by decide +kernel
set_option maxRecDepth 20000 in
theorem ggX5_fitting_X0_become : GoodIn wsX5_fitting wsX0_become := goodIn_r _ [7, 8, 9, 10, 11, 12, 13, 14, 15, 16, 17, 18, 19, 20, 21, 22, 23, 24, 25, 102, 103, 104, 105, 106, 107, 108, 109, 110, 111, 112, 113, 114, 115, 116] (by decide +kernel) (by decide +kernel)
set_option maxRecDepth 20000 in
theorem gX5_fitting_X0_become : GoodIn wsX5_fitting (wsV RX5 184 RX0 yX0_become wsX0_become) := goodIn_app (goodIn_of _ (by decide +kernel)) ggX5_fitting_X0_become
set_option maxRecDepth 20000 in
theorem ggX5_fitting_X5_firstOtherwise : GoodIn wsX5_fitting wsX5_firstOtherwise := goodIn_r _ [30, 31, 1, 32, 33, 34, 6, 35, 23, 19, 13, 20, 22, 36, 37, 38, 39, 25, 14, 15, 40, 41, 42, 43, 44, 45, 46, 47, 48, 49, 50, 51, 17, 16, 52, 53, 54, 55, 56, 57, 58, 59, 60, 61, 62, 63, 64, 65, 66, 67, 68, 69, 29, 70, 71, 72, 73, 74, 75, 76, 77, 78, 79, 80, 81, 82, 83, 84, 85, 86, 87, 88, 21, 18, 89, 90, 91, 92, 93, 94, 95, 96, 97, 98, 99, 100, 101, 117, 118, 119, 102, 103, 104, 105, 106, 107, 108, 109, 110, 111, 112, 113, 114, 115, 116, 120, 121, 122, 123] (by decide +kernel) (by decide +kernel)
set_option maxRecDepth 20000 in
theorem gX5_fitting_X5_firstOtherwise : GoodIn wsX5_fitting (wsV RX5 233 RX5 yX5_firstOtherwise wsX5_firstOtherwise) := goodIn_app (goodIn_of _ (by decide +kernel)) ggX5_fitting_X5_firstOtherwise
theorem dX5_fitting_0 : decode cX5_fitting 0 = .ok (.iconst 0, 1) := by decide +kernel
theorem dX5_fitting_1 : decode cX5_fitting 1 = .ok (.istore 5, 2) := by decide +kernel
theorem dX5_fitting_3 : decode cX5_fitting 3 = .ok (.iconst (-1), 1) := by decide +kernel
theorem dX5_fitting_4 : decode cX5_fitting 4 = .ok (.istore 6, 2) := by decide +kernel
theorem dX5_fitting_6 : decode cX5_fitting 6 = .ok (.iconst 0, 1) := by decide +kernel
theorem dX5_fitting_7 : decode cX5_fitting 7 = .ok (.istore 7, 2) := by decide +kernel
theorem dX5_fitting_9 : decode cX5_fitting 9 = .ok (.iload 7, 2) := by decide +kernel
theorem dX5_fitting_11 : decode cX5_fitting 11 = .ok (.bipush 99, 2) := by decide +kernel
theorem dX5_fitting_13 : decode cX5_fitting 13 = .ok (.if_icmp .gt 52, 3) := by decide +kernel
theorem dX5_fitting_16 : decode cX5_fitting 16 = .ok (.aload_n 0, 1) := by decide +kernel
theorem dX5_fitting_17 : decode cX5_fitting 17 = .ok (.getfield 51, 3) := by decide +kernel
theorem dX5_fitting_20 : decode cX5_fitting 20 = .ok (.aload_n 0, 1) := by decide +kernel
theorem dX5_fitting_21 : decode cX5_fitting 21 = .ok (.getfield 44, 3) := by decide +kernel
theorem dX5_fitting_24 : decode cX5_fitting 24 = .ok (.invokevirtual 184, 3) := by decide +kernel
theorem dX5_fitting_27 : decode cX5_fitting 27 = .ok (.aload_n 2, 1) := by decide +kernel
theorem dX5_fitting_28 : decode cX5_fitting 28 = .ok (.iload_n 3, 1) := by decide +kernel
theorem dX5_fitting_29 : decode cX5_fitting 29 = .ok (.iload 7, 2) := by decide +kernel
theorem dX5_fitting_31 : decode cX5_fitting 31 = .ok (.iastore, 1) := by decide +kernel
theorem dX5_fitting_32 : decode cX5_fitting 32 = .ok (.aload_n 0, 1) := by decide +kernel
theorem dX5_fitting_33 : decode cX5_fitting 33 = .ok (.iload_n 1, 1) := by decide +kernel
theorem dX5_fitting_34 : decode cX5_fitting 34 = .ok (.invokevirtual 233, 3) := by decide +kernel
theorem dX5_fitting_37 : decode cX5_fitting 37 = .ok (.iconst (-1), 1) := by decide +kernel
theorem dX5_fitting_38 : decode cX5_fitting 38 = .ok (.if_icmp .ne 21, 3) := by decide +kernel
theorem dX5_fitting_41 : decode cX5_fitting 41 = .ok (.iinc 5 1, 3) := by decide +kernel
theorem dX5_fitting_44 : decode cX5_fitting 44 = .ok (.iload 6, 2) := by decide +kernel
theorem dX5_fitting_46 : decode cX5_fitting 46 = .ok (.iconst (-1), 1) := by decide +kernel
theorem dX5_fitting_47 : decode cX5_fitting 47 = .ok (.if_icmp .ne 8, 3) := by decide +kernel
theorem dX5_fitting_50 : decode cX5_fitting 50 = .ok (.iload 7, 2) := by decide +kernel
theorem dX5_fitting_52 : decode cX5_fitting 52 = .ok (.goto 5, 3) := by decide +kernel
theorem dX5_fitting_55 : decode cX5_fitting 55 = .ok (.iload 6, 2) := by decide +kernel
theorem dX5_fitting_57 : decode cX5_fitting 57 = .ok (.istore 6, 2) := by decide +kernel
theorem dX5_fitting_59 : decode cX5_fitting 59 = .ok (.iinc 7 1, 3) := by decide +kernel
theorem dX5_fitting_62 : decode cX5_fitting 62 = .ok (.goto (-53), 3) := by decide +kernel
theorem dX5_fitting_65 : decode cX5_fitting 65 = .ok (.iload 4, 2) := by decide +kernel
theorem dX5_fitting_67 : decode cX5_fitting 67 = .ok (.ifCond .ne 8, 3) := by decide +kernel
theorem dX5_fitting_70 : decode cX5_fitting 70 = .ok (.iload 5, 2) := by decide +kernel
theorem dX5_fitting_72 : decode cX5_fitting 72 = .ok (.goto 5, 3) := by decide +kernel
theorem dX5_fitting_75 : decode cX5_fitting 75 = .ok (.iload 6, 2) := by decide +kernel
theorem dX5_fitting_77 : decode cX5_fitting 77 = .ok (.ireturn, 1) := by decide +kernel
set_option maxRecDepth 20000 in
theorem ggX5_drawn_X5_isBelow : GoodIn wsX5_drawn wsX5_isBelow := goodIn_r _ [6] (by decide +kernel) (by decide +kernel)
set_option maxRecDepth 20000 in
theorem gX5_drawn_X5_isBelow : GoodIn wsX5_drawn (va_wsS RX5 100 yX5_isBelow wsX5_isBelow) := goodIn_app (goodIn_of _ (by decide +kernel)) ggX5_drawn_X5_isBelow
set_option maxRecDepth 20000 in
theorem ggX5_drawn_X5_holdAssizes : GoodIn wsX5_drawn wsX5_holdAssizes := goodIn_r _ [10, 2, 11, 12, 13, 14, 15, 16, 17, 18, 19, 20, 21, 22, 23, 24, 25, 26, 27, 28, 29, 30, 31, 32, 33, 34, 35, 36, 37, 38, 39, 40, 41, 4, 5, 6, 42, 43, 44, 45, 46, 47, 48, 49, 50, 51, 52, 53, 54, 55, 56, 57, 58, 59, 60, 61, 62, 63, 64, 65, 66, 67, 68, 69, 70, 71, 72, 73, 74, 75, 76, 77, 78, 79, 80, 81, 82, 83, 84, 85, 86, 87, 88, 89, 90, 91, 92, 93, 94, 95, 96, 97, 98, 99, 100, 101, 102, 103, 104, 105, 106, 107, 108, 109, 110, 111, 112, 113, 114, 115, 116, 117, 118, 119, 120, 121, 122, 123, 124, 125, 126, 135, 136, 137, 138, 139, 140, 141, 142, 143, 144, 145, 146, 147, 148, 149, 150, 151, 152, 153, 154, 155, 156, 157, 158, 159, 160, 161, 162, 163, 164] (by decide +kernel) (by decide +kernel)
set_option maxRecDepth 20000 in
theorem gX5_drawn_X5_holdAssizes : GoodIn wsX5_drawn (wsV RX5 259 RX5 yX5_holdAssizes wsX5_holdAssizes) := goodIn_app (goodIn_of _ (by decide +kernel)) ggX5_drawn_X5_holdAssizes
set_option maxRecDepth 20000 in
theorem ggX5_drawn_X0_verdict : GoodIn wsX5_drawn wsX0_verdict := goodIn_r _ [130, 34, 131, 132, 133, 18, 134, 20, 146, 147, 148, 149, 150, 151, 152, 153, 154, 155, 156, 157, 158, 159, 160] (by decide +kernel) (by decide +kernel)
set_option maxRecDepth 20000 in
theorem gX5_drawn_X0_verdict : GoodIn wsX5_drawn (wsV RX5 97 RX0 yX0_verdict wsX0_verdict) := goodIn_app (goodIn_of _ (by decide +kernel)) ggX5_drawn_X0_verdict
theorem dX5_drawn_0 : decode cX5_drawn 0 = .ok (.iload_n 1, 1) := by decide +kernel
theorem dX5_drawn_1 : decode cX5_drawn 1 = .ok (.ldc_w 258, 3) := by decide +kernel
theorem dX5_drawn_4 : decode cX5_drawn 4 = .ok (.invokestatic 100, 3) := by decide +kernel
theorem dX5_drawn_7 : decode cX5_drawn 7 = .ok (.ifCond .eq 11, 3) := by decide +kernel
theorem dX5_drawn_10 : decode cX5_drawn 10 = .ok (.iload_n 2, 1) := by decide +kernel
theorem dX5_drawn_11 : decode cX5_drawn 11 = .ok (.iconst 2, 1) := by decide +kernel
theorem dX5_drawn_12 : decode cX5_drawn 12 = .ok (.invokestatic 100, 3) := by decide +kernel
theorem dX5_drawn_15 : decode cX5_drawn 15 = .ok (.ifCond .ne 7, 3) := by decide +kernel
theorem dX5_drawn_18 : decode cX5_drawn 18 = .ok (.sipush (-5000), 3) := by decide +kernel
theorem dX5_drawn_21 : decode cX5_drawn 21 = .ok (.ireturn, 1) := by decide +kernel
theorem dX5_drawn_22 : decode cX5_drawn 22 = .ok (.aload_n 0, 1) := by decide +kernel
theorem dX5_drawn_23 : decode cX5_drawn 23 = .ok (.iload_n 1, 1) := by decide +kernel
theorem dX5_drawn_24 : decode cX5_drawn 24 = .ok (.invokevirtual 259, 3) := by decide +kernel
theorem dX5_drawn_27 : decode cX5_drawn 27 = .ok (.iload_n 2, 1) := by decide +kernel
theorem dX5_drawn_28 : decode cX5_drawn 28 = .ok (.ifCond .ne 13, 3) := by decide +kernel
theorem dX5_drawn_31 : decode cX5_drawn 31 = .ok (.aload_n 0, 1) := by decide +kernel
theorem dX5_drawn_32 : decode cX5_drawn 32 = .ok (.getfield 51, 3) := by decide +kernel
theorem dX5_drawn_35 : decode cX5_drawn 35 = .ok (.invokevirtual 97, 3) := by decide +kernel
theorem dX5_drawn_38 : decode cX5_drawn 38 = .ok (.goto 10, 3) := by decide +kernel
theorem dX5_drawn_41 : decode cX5_drawn 41 = .ok (.aload_n 0, 1) := by decide +kernel
theorem dX5_drawn_42 : decode cX5_drawn 42 = .ok (.getfield 51, 3) := by decide +kernel
theorem dX5_drawn_45 : decode cX5_drawn 45 = .ok (.getfield 94, 3) := by decide +kernel
theorem dX5_drawn_48 : decode cX5_drawn 48 = .ok (.ireturn, 1) := by decide +kernel
set_option maxRecDepth 20000 in
theorem ggX5_odds_X5_isBelow : GoodIn wsX5_odds wsX5_isBelow := goodIn_r _ [7] (by decide +kernel) (by decide +kernel)
set_option maxRecDepth 20000 in
theorem gX5_odds_X5_isBelow : GoodIn wsX5_odds (va_wsS RX5 100 yX5_isBelow wsX5_isBelow) := goodIn_app (goodIn_of _ (by decide +kernel)) ggX5_odds_X5_isBelow
set_option maxRecDepth 20000 in
theorem ggX5_odds_X5_holdAssizes : GoodIn wsX5_odds wsX5_holdAssizes := goodIn_r _ [11, 3, 12, 13, 14, 15, 16, 17, 18, 19, 20, 21, 22, 23, 24, 25, 26, 27, 28, 29, 30, 31, 32, 33, 34, 35, 36, 37, 38, 39, 40, 41, 42, 5, 6, 7, 43, 44, 45, 46, 47, 48, 49, 50, 51, 52, 53, 54, 55, 56, 57, 58, 59, 60, 61, 62, 63, 64, 65, 66, 67, 68, 69, 70, 71, 72, 73, 74, 75, 76, 77, 78, 79, 80, 81, 82, 83, 84, 85, 86, 87, 88, 89, 90, 91, 92, 93, 94, 95, 96, 97, 98, 99, 100, 101, 102, 103, 104, 105, 106, 107, 108, 109, 110, 111, 112, 113, 114, 115, 116, 117, 118, 119, 120, 121, 122, 123, 124, 125, 126, 127, 145, 146, 147, 148, 149, 150, 151, 152, 153, 154, 155, 156, 157, 158, 159, 160, 161, 162, 163, 164, 165, 166, 167, 168, 169, 170, 171, 172, 173, 174] (by decide +kernel) (by decide +kernel)
set_option maxRecDepth 20000 in
theorem gX5_odds_X5_holdAssizes : GoodIn wsX5_odds (wsV RX5 259 RX5 yX5_holdAssizes wsX5_holdAssizes) := goodIn_app (goodIn_of _ (by decide +kernel)) ggX5_odds_X5_holdAssizes
set_option maxRecDepth 20000 in
theorem ggX5_odds_X0_verdict : GoodIn wsX5_odds wsX0_verdict := goodIn_r _ [131, 35, 132, 133, 134, 19, 135, 21, 156, 157, 158, 159, 160, 161, 162, 163, 164, 165, 166, 167, 168, 169, 170] (by decide +kernel) (by decide +kernel)
set_option maxRecDepth 20000 in
theorem gX5_odds_X0_verdict : GoodIn wsX5_odds (wsV RX5 97 RX0 yX0_verdict wsX0_verdict) := goodIn_app (goodIn_of _ (by decide +kernel)) ggX5_odds_X0_verdict
set_option maxRecDepth 20000 in
theorem ggX5_odds_X5_lowest : GoodIn wsX5_odds wsX5_lowest := goodIn_r _ [138, 139, 140, 88, 141, 2, 142, 143, 6, 144, 4, 5, 7] (by decide +kernel) (by decide +kernel)
set_option maxRecDepth 20000 in
theorem gX5_odds_X5_lowest : GoodIn wsX5_odds (va_wsS RX5 220 yX5_lowest wsX5_lowest) := goodIn_app (goodIn_of _ (by decide +kernel)) ggX5_odds_X5_lowest
theorem dX5_odds_0 : decode cX5_odds 0 = .ok (.iload_n 1, 1) := by decide +kernel
theorem dX5_odds_1 : decode cX5_odds 1 = .ok (.ldc_w 258, 3) := by decide +kernel
theorem dX5_odds_4 : decode cX5_odds 4 = .ok (.invokestatic 100, 3) := by decide +kernel
theorem dX5_odds_7 : decode cX5_odds 7 = .ok (.ifCond .eq 18, 3) := by decide +kernel
theorem dX5_odds_10 : decode cX5_odds 10 = .ok (.iload_n 2, 1) := by decide +kernel
theorem dX5_odds_11 : decode cX5_odds 11 = .ok (.iconst 1, 1) := by decide +kernel
theorem dX5_odds_12 : decode cX5_odds 12 = .ok (.if_icmp .lt 13, 3) := by decide +kernel
theorem dX5_odds_15 : decode cX5_odds 15 = .ok (.iload_n 2, 1) := by decide +kernel
theorem dX5_odds_16 : decode cX5_odds 16 = .ok (.bipush 40, 2) := by decide +kernel
theorem dX5_odds_18 : decode cX5_odds 18 = .ok (.if_icmp .gt 7, 3) := by decide +kernel
theorem dX5_odds_21 : decode cX5_odds 21 = .ok (.iconst 1, 1) := by decide +kernel
theorem dX5_odds_22 : decode cX5_odds 22 = .ok (.goto 4, 3) := by decide +kernel
theorem dX5_odds_25 : decode cX5_odds 25 = .ok (.iconst 0, 1) := by decide +kernel
theorem dX5_odds_26 : decode cX5_odds 26 = .ok (.istore 5, 2) := by decide +kernel
theorem dX5_odds_28 : decode cX5_odds 28 = .ok (.iload 5, 2) := by decide +kernel
theorem dX5_odds_30 : decode cX5_odds 30 = .ok (.ifCond .eq 17, 3) := by decide +kernel
theorem dX5_odds_33 : decode cX5_odds 33 = .ok (.iload_n 3, 1) := by decide +kernel
theorem dX5_odds_34 : decode cX5_odds 34 = .ok (.sipush (-999), 3) := by decide +kernel
theorem dX5_odds_37 : decode cX5_odds 37 = .ok (.if_icmp .lt 10, 3) := by decide +kernel
theorem dX5_odds_40 : decode cX5_odds 40 = .ok (.iload_n 3, 1) := by decide +kernel
theorem dX5_odds_41 : decode cX5_odds 41 = .ok (.sipush 999, 3) := by decide +kernel
theorem dX5_odds_44 : decode cX5_odds 44 = .ok (.if_icmp .le 7, 3) := by decide +kernel
theorem dX5_odds_47 : decode cX5_odds 47 = .ok (.ldc2_w 218, 3) := by decide +kernel
theorem dX5_odds_50 : decode cX5_odds 50 = .ok (.lreturn, 1) := by decide +kernel
theorem dX5_odds_51 : decode cX5_odds 51 = .ok (.iconst 0, 1) := by decide +kernel
theorem dX5_odds_52 : decode cX5_odds 52 = .ok (.istore 6, 2) := by decide +kernel
theorem dX5_odds_54 : decode cX5_odds 54 = .ok (.iconst 0, 1) := by decide +kernel
theorem dX5_odds_55 : decode cX5_odds 55 = .ok (.istore 7, 2) := by decide +kernel
theorem dX5_odds_57 : decode cX5_odds 57 = .ok (.iload 7, 2) := by decide +kernel
theorem dX5_odds_59 : decode cX5_odds 59 = .ok (.iload_n 2, 1) := by decide +kernel
theorem dX5_odds_60 : decode cX5_odds 60 = .ok (.if_icmp .ge 38, 3) := by decide +kernel
theorem dX5_odds_63 : decode cX5_odds 63 = .ok (.aload_n 0, 1) := by decide +kernel
theorem dX5_odds_64 : decode cX5_odds 64 = .ok (.iload_n 1, 1) := by decide +kernel
theorem dX5_odds_65 : decode cX5_odds 65 = .ok (.iload 7, 2) := by decide +kernel
theorem dX5_odds_67 : decode cX5_odds 67 = .ok (.iadd, 1) := by decide +kernel
theorem dX5_odds_68 : decode cX5_odds 68 = .ok (.invokevirtual 259, 3) := by decide +kernel
theorem dX5_odds_71 : decode cX5_odds 71 = .ok (.iload 6, 2) := by decide +kernel
theorem dX5_odds_73 : decode cX5_odds 73 = .ok (.aload_n 0, 1) := by decide +kernel
theorem dX5_odds_74 : decode cX5_odds 74 = .ok (.getfield 51, 3) := by decide +kernel
theorem dX5_odds_77 : decode cX5_odds 77 = .ok (.invokevirtual 97, 3) := by decide +kernel
theorem dX5_odds_80 : decode cX5_odds 80 = .ok (.iload_n 3, 1) := by decide +kernel
theorem dX5_odds_81 : decode cX5_odds 81 = .ok (.if_icmp .lt 7, 3) := by decide +kernel
theorem dX5_odds_84 : decode cX5_odds 84 = .ok (.iconst 1, 1) := by decide +kernel
theorem dX5_odds_85 : decode cX5_odds 85 = .ok (.goto 4, 3) := by decide +kernel
theorem dX5_odds_88 : decode cX5_odds 88 = .ok (.iconst 0, 1) := by decide +kernel
theorem dX5_odds_89 : decode cX5_odds 89 = .ok (.iadd, 1) := by decide +kernel
theorem dX5_odds_90 : decode cX5_odds 90 = .ok (.istore 6, 2) := by decide +kernel
theorem dX5_odds_92 : decode cX5_odds 92 = .ok (.iinc 7 1, 3) := by decide +kernel
theorem dX5_odds_95 : decode cX5_odds 95 = .ok (.goto (-38), 3) := by decide +kernel
theorem dX5_odds_98 : decode cX5_odds 98 = .ok (.iload 6, 2) := by decide +kernel
theorem dX5_odds_100 : decode cX5_odds 100 = .ok (.iload_n 2, 1) := by decide +kernel
theorem dX5_odds_101 : decode cX5_odds 101 = .ok (.iload 4, 2) := by decide +kernel
theorem dX5_odds_103 : decode cX5_odds 103 = .ok (.invokestatic 220, 3) := by decide +kernel
theorem dX5_odds_106 : decode cX5_odds 106 = .ok (.lreturn, 1) := by decide +kernel
set_option maxRecDepth 20000 in
theorem ggX5_holdAssizes_X0_become : GoodIn wsX5_holdAssizes wsX0_become := goodIn_r _ [10, 11, 12, 13, 14, 15, 16, 17, 18, 19, 20, 21, 22, 23, 24, 25, 26, 27, 28, 132, 133, 134, 135, 136, 137, 138, 139, 140, 141, 142, 143, 144, 145, 146] (by decide +kernel) (by decide +kernel)
set_option maxRecDepth 20000 in
theorem gX5_holdAssizes_X0_become : GoodIn wsX5_holdAssizes (wsV RX5 184 RX0 yX0_become wsX0_become) := goodIn_app (goodIn_of _ (by decide +kernel)) ggX5_holdAssizes_X0_become
set_option maxRecDepth 20000 in
theorem ggX5_holdAssizes_X0_hasWitness : GoodIn wsX5_holdAssizes wsX0_hasWitness := goodIn_r _ [32, 27, 33, 34, 35, 132, 133, 134, 135, 136, 137, 138, 139, 140, 141, 142, 143, 144, 145, 146] (by decide +kernel) (by decide +kernel)
set_option maxRecDepth 20000 in
theorem gX5_holdAssizes_X0_hasWitness : GoodIn wsX5_holdAssizes (wsV RX5 118 RX0 yX0_hasWitness wsX0_hasWitness) := goodIn_app (goodIn_of _ (by decide +kernel)) ggX5_holdAssizes_X0_hasWitness
set_option maxRecDepth 20000 in
theorem ggX5_holdAssizes_X0_canLetFall : GoodIn wsX5_holdAssizes wsX0_canLetFall := goodIn_r _ [39, 19, 40, 41, 42, 9, 43, 22, 132, 133, 134, 135, 136, 137, 138, 139, 140, 141, 142, 143, 144, 145, 146] (by decide +kernel) (by decide +kernel)
set_option maxRecDepth 20000 in
theorem gX5_holdAssizes_X0_canLetFall : GoodIn wsX5_holdAssizes (wsV RX5 175 RX0 yX0_canLetFall wsX0_canLetFall) := goodIn_app (goodIn_of _ (by decide +kernel)) ggX5_holdAssizes_X0_canLetFall
set_option maxRecDepth 20000 in
theorem ggX5_holdAssizes_X0_letFall : GoodIn wsX5_holdAssizes wsX0_letFall := goodIn_r _ [47, 22, 23, 24, 48, 49, 50, 9, 51, 19, 17, 28, 18, 52, 53, 54, 55, 56, 57, 58, 59, 60, 61, 62, 63, 64, 65, 66, 67, 68, 69, 70, 20, 26, 25, 40, 41, 42, 43, 71, 72, 73, 74, 75, 76, 77, 34, 78, 79, 80, 81, 82, 83, 84, 85, 86, 87, 88, 89, 90, 91, 92, 93, 94, 95, 96, 97, 98, 99, 100, 101, 132, 133, 134, 135, 136, 137, 138, 139, 140, 141, 142, 143, 144, 145, 146, 147, 148, 149, 150] (by decide +kernel) (by decide +kernel)
set_option maxRecDepth 20000 in
theorem gX5_holdAssizes_X0_letFall : GoodIn wsX5_holdAssizes (wsV RX5 178 RX0 yX0_letFall wsX0_letFall) := goodIn_app (goodIn_of _ (by decide +kernel)) ggX5_holdAssizes_X0_letFall
set_option maxRecDepth 20000 in
theorem ggX5_holdAssizes_X0_passHours : GoodIn wsX5_holdAssizes wsX0_passHours := goodIn_r _ [105, 26, 22, 16, 23, 25, 106, 107, 108, 9, 109, 28, 17, 18, 59, 60, 61, 62, 63, 64, 65, 66, 67, 68, 69, 70, 20, 19, 52, 53, 54, 55, 56, 57, 58, 40, 41, 42, 43, 71, 72, 73, 74, 75, 76, 77, 34, 78, 79, 80, 81, 82, 83, 84, 85, 110, 111, 88, 112, 113, 114, 115, 116, 117, 118, 119, 24, 21, 120, 132, 133, 134, 135, 136, 137, 138, 139, 140, 141, 142, 143, 144, 145, 146, 147, 148, 149, 150] (by decide +kernel) (by decide +kernel)
set_option maxRecDepth 20000 in
theorem gX5_holdAssizes_X0_passHours : GoodIn wsX5_holdAssizes (wsV RX5 181 RX0 yX0_passHours wsX0_passHours) := goodIn_app (goodIn_of _ (by decide +kernel)) ggX5_holdAssizes_X0_passHours
theorem dX5_holdAssizes_0 : decode cX5_holdAssizes 0 = .ok (.aload_n 0, 1) := by decide +kernel
theorem dX5_holdAssizes_1 : decode cX5_holdAssizes 1 = .ok (.getfield 51, 3) := by decide +kernel
theorem dX5_holdAssizes_4 : decode cX5_holdAssizes 4 = .ok (.aload_n 0, 1) := by decide +kernel
theorem dX5_holdAssizes_5 : decode cX5_holdAssizes 5 = .ok (.getfield 44, 3) := by decide +kernel
theorem dX5_holdAssizes_8 : decode cX5_holdAssizes 8 = .ok (.invokevirtual 184, 3) := by decide +kernel
theorem dX5_holdAssizes_11 : decode cX5_holdAssizes 11 = .ok (.iload_n 1, 1) := by decide +kernel
theorem dX5_holdAssizes_12 : decode cX5_holdAssizes 12 = .ok (.i2l, 1) := by decide +kernel
theorem dX5_holdAssizes_13 : decode cX5_holdAssizes 13 = .ok (.lconst 1, 1) := by decide +kernel
theorem dX5_holdAssizes_14 : decode cX5_holdAssizes 14 = .ok (.ladd, 1) := by decide +kernel
theorem dX5_holdAssizes_15 : decode cX5_holdAssizes 15 = .ok (.lstore_n 2, 1) := by decide +kernel
theorem dX5_holdAssizes_16 : decode cX5_holdAssizes 16 = .ok (.iconst 0, 1) := by decide +kernel
theorem dX5_holdAssizes_17 : decode cX5_holdAssizes 17 = .ok (.istore 4, 2) := by decide +kernel
theorem dX5_holdAssizes_19 : decode cX5_holdAssizes 19 = .ok (.iload 4, 2) := by decide +kernel
theorem dX5_holdAssizes_21 : decode cX5_holdAssizes 21 = .ok (.bipush 10, 2) := by decide +kernel
theorem dX5_holdAssizes_23 : decode cX5_holdAssizes 23 = .ok (.if_icmp .ge 70, 3) := by decide +kernel
theorem dX5_holdAssizes_26 : decode cX5_holdAssizes 26 = .ok (.lload_n 2, 1) := by decide +kernel
theorem dX5_holdAssizes_27 : decode cX5_holdAssizes 27 = .ok (.ldc2_w 262, 3) := by decide +kernel
theorem dX5_holdAssizes_30 : decode cX5_holdAssizes 30 = .ok (.lmul, 1) := by decide +kernel
theorem dX5_holdAssizes_31 : decode cX5_holdAssizes 31 = .ok (.ldc2_w 264, 3) := by decide +kernel
theorem dX5_holdAssizes_34 : decode cX5_holdAssizes 34 = .ok (.lrem, 1) := by decide +kernel
theorem dX5_holdAssizes_35 : decode cX5_holdAssizes 35 = .ok (.lstore_n 2, 1) := by decide +kernel
theorem dX5_holdAssizes_36 : decode cX5_holdAssizes 36 = .ok (.lload_n 2, 1) := by decide +kernel
theorem dX5_holdAssizes_37 : decode cX5_holdAssizes 37 = .ok (.ldc2_w 266, 3) := by decide +kernel
theorem dX5_holdAssizes_40 : decode cX5_holdAssizes 40 = .ok (.lrem, 1) := by decide +kernel
theorem dX5_holdAssizes_41 : decode cX5_holdAssizes 41 = .ok (.l2i, 1) := by decide +kernel
theorem dX5_holdAssizes_42 : decode cX5_holdAssizes 42 = .ok (.istore 5, 2) := by decide +kernel
theorem dX5_holdAssizes_44 : decode cX5_holdAssizes 44 = .ok (.aload_n 0, 1) := by decide +kernel
theorem dX5_holdAssizes_45 : decode cX5_holdAssizes 45 = .ok (.getfield 51, 3) := by decide +kernel
theorem dX5_holdAssizes_48 : decode cX5_holdAssizes 48 = .ok (.iload 5, 2) := by decide +kernel
theorem dX5_holdAssizes_50 : decode cX5_holdAssizes 50 = .ok (.invokevirtual 118, 3) := by decide +kernel
theorem dX5_holdAssizes_53 : decode cX5_holdAssizes 53 = .ok (.ifCond .eq 25, 3) := by decide +kernel
theorem dX5_holdAssizes_56 : decode cX5_holdAssizes 56 = .ok (.aload_n 0, 1) := by decide +kernel
theorem dX5_holdAssizes_57 : decode cX5_holdAssizes 57 = .ok (.getfield 51, 3) := by decide +kernel
theorem dX5_holdAssizes_60 : decode cX5_holdAssizes 60 = .ok (.iload 5, 2) := by decide +kernel
theorem dX5_holdAssizes_62 : decode cX5_holdAssizes 62 = .ok (.invokevirtual 175, 3) := by decide +kernel
theorem dX5_holdAssizes_65 : decode cX5_holdAssizes 65 = .ok (.ifCond .eq 13, 3) := by decide +kernel
theorem dX5_holdAssizes_68 : decode cX5_holdAssizes 68 = .ok (.aload_n 0, 1) := by decide +kernel
theorem dX5_holdAssizes_69 : decode cX5_holdAssizes 69 = .ok (.getfield 51, 3) := by decide +kernel
theorem dX5_holdAssizes_72 : decode cX5_holdAssizes 72 = .ok (.iload 5, 2) := by decide +kernel
theorem dX5_holdAssizes_74 : decode cX5_holdAssizes 74 = .ok (.invokevirtual 178, 3) := by decide +kernel
theorem dX5_holdAssizes_77 : decode cX5_holdAssizes 77 = .ok (.pop, 1) := by decide +kernel
theorem dX5_holdAssizes_78 : decode cX5_holdAssizes 78 = .ok (.aload_n 0, 1) := by decide +kernel
theorem dX5_holdAssizes_79 : decode cX5_holdAssizes 79 = .ok (.getfield 51, 3) := by decide +kernel
theorem dX5_holdAssizes_82 : decode cX5_holdAssizes 82 = .ok (.iconst 1, 1) := by decide +kernel
theorem dX5_holdAssizes_83 : decode cX5_holdAssizes 83 = .ok (.invokevirtual 181, 3) := by decide +kernel
theorem dX5_holdAssizes_86 : decode cX5_holdAssizes 86 = .ok (.pop, 1) := by decide +kernel
theorem dX5_holdAssizes_87 : decode cX5_holdAssizes 87 = .ok (.iinc 4 1, 3) := by decide +kernel
theorem dX5_holdAssizes_90 : decode cX5_holdAssizes 90 = .ok (.goto (-71), 3) := by decide +kernel
theorem dX5_holdAssizes_93 : decode cX5_holdAssizes 93 = .ok (.return_, 1) := by decide +kernel
set_option maxRecDepth 20000 in
theorem ggX5_image_X0_become : GoodIn wsX5_image wsX0_become := goodIn_r _ [8, 9, 10, 11, 12, 13, 14, 15, 16, 17, 18, 19, 20, 21, 22, 23, 24, 25, 26, 38, 39, 40, 41, 42, 43, 44, 45, 46, 47, 48, 49, 50, 51, 52] (by decide +kernel) (by decide +kernel)
set_option maxRecDepth 20000 in
theorem gX5_image_X0_become : GoodIn wsX5_image (wsV RX5 184 RX0 yX0_become wsX0_become) := goodIn_app (goodIn_of _ (by decide +kernel)) ggX5_image_X0_become
theorem dX5_image_0 : decode cX5_image 0 = .ok (.aload_n 0, 1) := by decide +kernel
theorem dX5_image_1 : decode cX5_image 1 = .ok (.getfield 48, 3) := by decide +kernel
theorem dX5_image_4 : decode cX5_image 4 = .ok (.aload_n 0, 1) := by decide +kernel
theorem dX5_image_5 : decode cX5_image 5 = .ok (.getfield 44, 3) := by decide +kernel
theorem dX5_image_8 : decode cX5_image 8 = .ok (.invokevirtual 184, 3) := by decide +kernel
theorem dX5_image_11 : decode cX5_image 11 = .ok (.aload_n 0, 1) := by decide +kernel
theorem dX5_image_12 : decode cX5_image 12 = .ok (.iconst 1, 1) := by decide +kernel
theorem dX5_image_13 : decode cX5_image 13 = .ok (.putfield 268, 3) := by decide +kernel
theorem dX5_image_16 : decode cX5_image 16 = .ok (.aload_n 0, 1) := by decide +kernel
theorem dX5_image_17 : decode cX5_image 17 = .ok (.getfield 44, 3) := by decide +kernel
theorem dX5_image_20 : decode cX5_image 20 = .ok (.getfield 55, 3) := by decide +kernel
theorem dX5_image_23 : decode cX5_image 23 = .ok (.ireturn, 1) := by decide +kernel
set_option maxRecDepth 20000 in
theorem ggX5_back_X0_become : GoodIn wsX5_back wsX0_become := goodIn_r _ [8, 9, 10, 11, 12, 13, 14, 15, 16, 17, 18, 19, 20, 21, 22, 23, 24, 25, 26, 38, 39, 40, 41, 42, 43, 44, 45, 46, 47, 48, 49, 50, 51, 52] (by decide +kernel) (by decide +kernel)
set_option maxRecDepth 20000 in
theorem gX5_back_X0_become : GoodIn wsX5_back (wsV RX5 184 RX0 yX0_become wsX0_become) := goodIn_app (goodIn_of _ (by decide +kernel)) ggX5_back_X0_become
theorem dX5_back_0 : decode cX5_back 0 = .ok (.aload_n 0, 1) := by decide +kernel
theorem dX5_back_1 : decode cX5_back 1 = .ok (.getfield 268, 3) := by decide +kernel
theorem dX5_back_4 : decode cX5_back 4 = .ok (.ifCond .ne 6, 3) := by decide +kernel
theorem dX5_back_7 : decode cX5_back 7 = .ok (.bipush (-3), 2) := by decide +kernel
theorem dX5_back_9 : decode cX5_back 9 = .ok (.ireturn, 1) := by decide +kernel
theorem dX5_back_10 : decode cX5_back 10 = .ok (.aload_n 0, 1) := by decide +kernel
theorem dX5_back_11 : decode cX5_back 11 = .ok (.getfield 44, 3) := by decide +kernel
theorem dX5_back_14 : decode cX5_back 14 = .ok (.aload_n 0, 1) := by decide +kernel
theorem dX5_back_15 : decode cX5_back 15 = .ok (.getfield 48, 3) := by decide +kernel
theorem dX5_back_18 : decode cX5_back 18 = .ok (.invokevirtual 184, 3) := by decide +kernel
theorem dX5_back_21 : decode cX5_back 21 = .ok (.aload_n 0, 1) := by decide +kernel
theorem dX5_back_22 : decode cX5_back 22 = .ok (.getfield 44, 3) := by decide +kernel
theorem dX5_back_25 : decode cX5_back 25 = .ok (.getfield 55, 3) := by decide +kernel
theorem dX5_back_28 : decode cX5_back 28 = .ok (.ireturn, 1) := by decide +kernel
set_option maxRecDepth 20000 in
theorem ggX5_sheet_X5_isBelow : GoodIn wsX5_sheet wsX5_isBelow := goodIn_r _ [5] (by decide +kernel) (by decide +kernel)
set_option maxRecDepth 20000 in
theorem gX5_sheet_X5_isBelow : GoodIn wsX5_sheet (va_wsS RX5 100 yX5_isBelow wsX5_isBelow) := goodIn_app (goodIn_of _ (by decide +kernel)) ggX5_sheet_X5_isBelow
set_option maxRecDepth 20000 in
theorem ggX5_sheet_X3_begin : GoodIn wsX5_sheet wsX3_begin := goodIn_r _ [10, 11, 12, 13, 14, 15, 16, 17, 29, 30, 31] (by decide +kernel) (by decide +kernel)
set_option maxRecDepth 20000 in
theorem gX5_sheet_X3_begin : GoodIn wsX5_sheet (wsV RX5 244 RX3 yX3_begin wsX3_begin) := goodIn_app (goodIn_of _ (by decide +kernel)) ggX5_sheet_X3_begin
theorem dX5_sheet_0 : decode cX5_sheet 0 = .ok (.iload_n 1, 1) := by decide +kernel
theorem dX5_sheet_1 : decode cX5_sheet 1 = .ok (.iconst 4, 1) := by decide +kernel
theorem dX5_sheet_2 : decode cX5_sheet 2 = .ok (.invokestatic 100, 3) := by decide +kernel
theorem dX5_sheet_5 : decode cX5_sheet 5 = .ok (.ifCond .eq 13, 3) := by decide +kernel
theorem dX5_sheet_8 : decode cX5_sheet 8 = .ok (.iload_n 2, 1) := by decide +kernel
theorem dX5_sheet_9 : decode cX5_sheet 9 = .ok (.iconst (-1), 1) := by decide +kernel
theorem dX5_sheet_10 : decode cX5_sheet 10 = .ok (.if_icmp .lt 8, 3) := by decide +kernel
theorem dX5_sheet_13 : decode cX5_sheet 13 = .ok (.iload_n 2, 1) := by decide +kernel
theorem dX5_sheet_14 : decode cX5_sheet 14 = .ok (.iconst 2, 1) := by decide +kernel
theorem dX5_sheet_15 : decode cX5_sheet 15 = .ok (.if_icmp .le 6, 3) := by decide +kernel
theorem dX5_sheet_18 : decode cX5_sheet 18 = .ok (.bipush (-2), 2) := by decide +kernel
theorem dX5_sheet_20 : decode cX5_sheet 20 = .ok (.ireturn, 1) := by decide +kernel
theorem dX5_sheet_21 : decode cX5_sheet 21 = .ok (.iload_n 2, 1) := by decide +kernel
theorem dX5_sheet_22 : decode cX5_sheet 22 = .ok (.iconst (-1), 1) := by decide +kernel
theorem dX5_sheet_23 : decode cX5_sheet 23 = .ok (.if_icmp .eq 12, 3) := by decide +kernel
theorem dX5_sheet_26 : decode cX5_sheet 26 = .ok (.iload_n 3, 1) := by decide +kernel
theorem dX5_sheet_27 : decode cX5_sheet 27 = .ok (.bipush 40, 2) := by decide +kernel
theorem dX5_sheet_29 : decode cX5_sheet 29 = .ok (.if_icmp .le 6, 3) := by decide +kernel
theorem dX5_sheet_32 : decode cX5_sheet 32 = .ok (.bipush (-2), 2) := by decide +kernel
theorem dX5_sheet_34 : decode cX5_sheet 34 = .ok (.ireturn, 1) := by decide +kernel
theorem dX5_sheet_35 : decode cX5_sheet 35 = .ok (.iload_n 2, 1) := by decide +kernel
theorem dX5_sheet_36 : decode cX5_sheet 36 = .ok (.iconst (-1), 1) := by decide +kernel
theorem dX5_sheet_37 : decode cX5_sheet 37 = .ok (.if_icmp .eq 10, 3) := by decide +kernel
theorem dX5_sheet_40 : decode cX5_sheet 40 = .ok (.iload_n 3, 1) := by decide +kernel
theorem dX5_sheet_41 : decode cX5_sheet 41 = .ok (.ifCond .ge 6, 3) := by decide +kernel
theorem dX5_sheet_44 : decode cX5_sheet 44 = .ok (.bipush (-14), 2) := by decide +kernel
theorem dX5_sheet_46 : decode cX5_sheet 46 = .ok (.ireturn, 1) := by decide +kernel
theorem dX5_sheet_47 : decode cX5_sheet 47 = .ok (.aload_n 0, 1) := by decide +kernel
theorem dX5_sheet_48 : decode cX5_sheet 48 = .ok (.getfield 24, 3) := by decide +kernel
theorem dX5_sheet_51 : decode cX5_sheet 51 = .ok (.iload_n 1, 1) := by decide +kernel
theorem dX5_sheet_52 : decode cX5_sheet 52 = .ok (.aaload, 1) := by decide +kernel
theorem dX5_sheet_53 : decode cX5_sheet 53 = .ok (.iload_n 2, 1) := by decide +kernel
theorem dX5_sheet_54 : decode cX5_sheet 54 = .ok (.iload_n 2, 1) := by decide +kernel
theorem dX5_sheet_55 : decode cX5_sheet 55 = .ok (.iconst (-1), 1) := by decide +kernel
theorem dX5_sheet_56 : decode cX5_sheet 56 = .ok (.if_icmp .ne 7, 3) := by decide +kernel
theorem dX5_sheet_59 : decode cX5_sheet 59 = .ok (.iconst 0, 1) := by decide +kernel
theorem dX5_sheet_60 : decode cX5_sheet 60 = .ok (.goto 4, 3) := by decide +kernel
theorem dX5_sheet_63 : decode cX5_sheet 63 = .ok (.iload_n 3, 1) := by decide +kernel
theorem dX5_sheet_64 : decode cX5_sheet 64 = .ok (.invokevirtual 244, 3) := by decide +kernel
theorem dX5_sheet_67 : decode cX5_sheet 67 = .ok (.iconst 1, 1) := by decide +kernel
theorem dX5_sheet_68 : decode cX5_sheet 68 = .ok (.ireturn, 1) := by decide +kernel
set_option maxRecDepth 20000 in
theorem ggX5_cell_X5_isBelow : GoodIn wsX5_cell wsX5_isBelow := goodIn_r _ [5] (by decide +kernel) (by decide +kernel)
set_option maxRecDepth 20000 in
theorem gX5_cell_X5_isBelow : GoodIn wsX5_cell (va_wsS RX5 100 yX5_isBelow wsX5_isBelow) := goodIn_app (goodIn_of _ (by decide +kernel)) ggX5_cell_X5_isBelow
set_option maxRecDepth 20000 in
theorem ggX5_cell_X3_isMissing : GoodIn wsX5_cell wsX3_isMissing := goodIn_r _ [10, 11, 28, 29, 30] (by decide +kernel) (by decide +kernel)
set_option maxRecDepth 20000 in
theorem gX5_cell_X3_isMissing : GoodIn wsX5_cell (wsV RX5 250 RX3 yX3_isMissing wsX3_isMissing) := goodIn_app (goodIn_of _ (by decide +kernel)) ggX5_cell_X3_isMissing
set_option maxRecDepth 20000 in
theorem ggX5_cell_X3_become : GoodIn wsX5_cell wsX3_become := goodIn_r _ [15, 16, 11, 28, 29, 30] (by decide +kernel) (by decide +kernel)
set_option maxRecDepth 20000 in
theorem gX5_cell_X3_become : GoodIn wsX5_cell (wsV RX5 248 RX3 yX3_become wsX3_become) := goodIn_app (goodIn_of _ (by decide +kernel)) ggX5_cell_X3_become
theorem dX5_cell_0 : decode cX5_cell 0 = .ok (.iload_n 1, 1) := by decide +kernel
theorem dX5_cell_1 : decode cX5_cell 1 = .ok (.iconst 4, 1) := by decide +kernel
theorem dX5_cell_2 : decode cX5_cell 2 = .ok (.invokestatic 100, 3) := by decide +kernel
theorem dX5_cell_5 : decode cX5_cell 5 = .ok (.ifCond .ne 6, 3) := by decide +kernel
theorem dX5_cell_8 : decode cX5_cell 8 = .ok (.bipush (-2), 2) := by decide +kernel
theorem dX5_cell_10 : decode cX5_cell 10 = .ok (.ireturn, 1) := by decide +kernel
theorem dX5_cell_11 : decode cX5_cell 11 = .ok (.aload_n 0, 1) := by decide +kernel
theorem dX5_cell_12 : decode cX5_cell 12 = .ok (.getfield 24, 3) := by decide +kernel
theorem dX5_cell_15 : decode cX5_cell 15 = .ok (.iload_n 1, 1) := by decide +kernel
theorem dX5_cell_16 : decode cX5_cell 16 = .ok (.aaload, 1) := by decide +kernel
theorem dX5_cell_17 : decode cX5_cell 17 = .ok (.invokevirtual 250, 3) := by decide +kernel
theorem dX5_cell_20 : decode cX5_cell 20 = .ok (.ifCond .eq 6, 3) := by decide +kernel
theorem dX5_cell_23 : decode cX5_cell 23 = .ok (.bipush (-11), 2) := by decide +kernel
theorem dX5_cell_25 : decode cX5_cell 25 = .ok (.ireturn, 1) := by decide +kernel
theorem dX5_cell_26 : decode cX5_cell 26 = .ok (.iload_n 2, 1) := by decide +kernel
theorem dX5_cell_27 : decode cX5_cell 27 = .ok (.aload_n 0, 1) := by decide +kernel
theorem dX5_cell_28 : decode cX5_cell 28 = .ok (.getfield 24, 3) := by decide +kernel
theorem dX5_cell_31 : decode cX5_cell 31 = .ok (.iload_n 1, 1) := by decide +kernel
theorem dX5_cell_32 : decode cX5_cell 32 = .ok (.aaload, 1) := by decide +kernel
theorem dX5_cell_33 : decode cX5_cell 33 = .ok (.getfield 254, 3) := by decide +kernel
theorem dX5_cell_36 : decode cX5_cell 36 = .ok (.invokestatic 100, 3) := by decide +kernel
theorem dX5_cell_39 : decode cX5_cell 39 = .ok (.ifCond .ne 6, 3) := by decide +kernel
theorem dX5_cell_42 : decode cX5_cell 42 = .ok (.bipush (-12), 2) := by decide +kernel
theorem dX5_cell_44 : decode cX5_cell 44 = .ok (.ireturn, 1) := by decide +kernel
theorem dX5_cell_45 : decode cX5_cell 45 = .ok (.aload_n 0, 1) := by decide +kernel
theorem dX5_cell_46 : decode cX5_cell 46 = .ok (.getfield 24, 3) := by decide +kernel
theorem dX5_cell_49 : decode cX5_cell 49 = .ok (.iload_n 1, 1) := by decide +kernel
theorem dX5_cell_50 : decode cX5_cell 50 = .ok (.aaload, 1) := by decide +kernel
theorem dX5_cell_51 : decode cX5_cell 51 = .ok (.iload_n 2, 1) := by decide +kernel
theorem dX5_cell_52 : decode cX5_cell 52 = .ok (.iload_n 3, 1) := by decide +kernel
theorem dX5_cell_53 : decode cX5_cell 53 = .ok (.invokevirtual 248, 3) := by decide +kernel
theorem dX5_cell_56 : decode cX5_cell 56 = .ok (.iconst 1, 1) := by decide +kernel
theorem dX5_cell_57 : decode cX5_cell 57 = .ok (.ireturn, 1) := by decide +kernel
set_option maxRecDepth 20000 in
theorem ggX5_copy_X5_isBelow : GoodIn wsX5_copy wsX5_isBelow := goodIn_r _ [9] (by decide +kernel) (by decide +kernel)
set_option maxRecDepth 20000 in
theorem gX5_copy_X5_isBelow : GoodIn wsX5_copy (va_wsS RX5 100 yX5_isBelow wsX5_isBelow) := goodIn_app (goodIn_of _ (by decide +kernel)) ggX5_copy_X5_isBelow
set_option maxRecDepth 20000 in
theorem ggX5_copy_X3_isMissing : GoodIn wsX5_copy wsX3_isMissing := goodIn_r _ [14, 15, 32, 33, 34] (by decide +kernel) (by decide +kernel)
set_option maxRecDepth 20000 in
theorem gX5_copy_X3_isMissing : GoodIn wsX5_copy (wsV RX5 250 RX3 yX3_isMissing wsX3_isMissing) := goodIn_app (goodIn_of _ (by decide +kernel)) ggX5_copy_X3_isMissing
set_option maxRecDepth 20000 in
theorem ggX5_copy_X3_has : GoodIn wsX5_copy wsX3_has := goodIn_r _ [19, 20, 32, 33, 34] (by decide +kernel) (by decide +kernel)
set_option maxRecDepth 20000 in
theorem gX5_copy_X3_has : GoodIn wsX5_copy (wsV RX5 275 RX3 yX3_has wsX3_has) := goodIn_app (goodIn_of _ (by decide +kernel)) ggX5_copy_X3_has
theorem dX5_copy_0 : decode cX5_copy 0 = .ok (.iload_n 1, 1) := by decide +kernel
theorem dX5_copy_1 : decode cX5_copy 1 = .ok (.iconst 4, 1) := by decide +kernel
theorem dX5_copy_2 : decode cX5_copy 2 = .ok (.invokestatic 100, 3) := by decide +kernel
theorem dX5_copy_5 : decode cX5_copy 5 = .ok (.ifCond .eq 11, 3) := by decide +kernel
theorem dX5_copy_8 : decode cX5_copy 8 = .ok (.iload_n 3, 1) := by decide +kernel
theorem dX5_copy_9 : decode cX5_copy 9 = .ok (.iconst 4, 1) := by decide +kernel
theorem dX5_copy_10 : decode cX5_copy 10 = .ok (.invokestatic 100, 3) := by decide +kernel
theorem dX5_copy_13 : decode cX5_copy 13 = .ok (.ifCond .ne 6, 3) := by decide +kernel
theorem dX5_copy_16 : decode cX5_copy 16 = .ok (.bipush (-2), 2) := by decide +kernel
theorem dX5_copy_18 : decode cX5_copy 18 = .ok (.ireturn, 1) := by decide +kernel
theorem dX5_copy_19 : decode cX5_copy 19 = .ok (.aload_n 0, 1) := by decide +kernel
theorem dX5_copy_20 : decode cX5_copy 20 = .ok (.getfield 24, 3) := by decide +kernel
theorem dX5_copy_23 : decode cX5_copy 23 = .ok (.iload_n 1, 1) := by decide +kernel
theorem dX5_copy_24 : decode cX5_copy 24 = .ok (.aaload, 1) := by decide +kernel
theorem dX5_copy_25 : decode cX5_copy 25 = .ok (.astore 6, 2) := by decide +kernel
theorem dX5_copy_27 : decode cX5_copy 27 = .ok (.aload_n 0, 1) := by decide +kernel
theorem dX5_copy_28 : decode cX5_copy 28 = .ok (.getfield 24, 3) := by decide +kernel
theorem dX5_copy_31 : decode cX5_copy 31 = .ok (.iload_n 3, 1) := by decide +kernel
theorem dX5_copy_32 : decode cX5_copy 32 = .ok (.aaload, 1) := by decide +kernel
theorem dX5_copy_33 : decode cX5_copy 33 = .ok (.astore 7, 2) := by decide +kernel
theorem dX5_copy_35 : decode cX5_copy 35 = .ok (.aload 6, 2) := by decide +kernel
theorem dX5_copy_37 : decode cX5_copy 37 = .ok (.invokevirtual 250, 3) := by decide +kernel
theorem dX5_copy_40 : decode cX5_copy 40 = .ok (.ifCond .ne 11, 3) := by decide +kernel
theorem dX5_copy_43 : decode cX5_copy 43 = .ok (.aload 7, 2) := by decide +kernel
theorem dX5_copy_45 : decode cX5_copy 45 = .ok (.invokevirtual 250, 3) := by decide +kernel
theorem dX5_copy_48 : decode cX5_copy 48 = .ok (.ifCond .eq 6, 3) := by decide +kernel
theorem dX5_copy_51 : decode cX5_copy 51 = .ok (.bipush (-11), 2) := by decide +kernel
theorem dX5_copy_53 : decode cX5_copy 53 = .ok (.ireturn, 1) := by decide +kernel
theorem dX5_copy_54 : decode cX5_copy 54 = .ok (.aload 6, 2) := by decide +kernel
theorem dX5_copy_56 : decode cX5_copy 56 = .ok (.getfield 272, 3) := by decide +kernel
theorem dX5_copy_59 : decode cX5_copy 59 = .ok (.aload 7, 2) := by decide +kernel
theorem dX5_copy_61 : decode cX5_copy 61 = .ok (.getfield 272, 3) := by decide +kernel
theorem dX5_copy_64 : decode cX5_copy 64 = .ok (.if_icmp .eq 6, 3) := by decide +kernel
theorem dX5_copy_67 : decode cX5_copy 67 = .ok (.bipush (-13), 2) := by decide +kernel
theorem dX5_copy_69 : decode cX5_copy 69 = .ok (.ireturn, 1) := by decide +kernel
theorem dX5_copy_70 : decode cX5_copy 70 = .ok (.aload 6, 2) := by decide +kernel
theorem dX5_copy_72 : decode cX5_copy 72 = .ok (.iload_n 2, 1) := by decide +kernel
theorem dX5_copy_73 : decode cX5_copy 73 = .ok (.iload 5, 2) := by decide +kernel
theorem dX5_copy_75 : decode cX5_copy 75 = .ok (.invokevirtual 275, 3) := by decide +kernel
theorem dX5_copy_78 : decode cX5_copy 78 = .ok (.ifCond .eq 15, 3) := by decide +kernel
theorem dX5_copy_81 : decode cX5_copy 81 = .ok (.aload 7, 2) := by decide +kernel
theorem dX5_copy_83 : decode cX5_copy 83 = .ok (.iload 4, 2) := by decide +kernel
theorem dX5_copy_85 : decode cX5_copy 85 = .ok (.iload 5, 2) := by decide +kernel
theorem dX5_copy_87 : decode cX5_copy 87 = .ok (.invokevirtual 275, 3) := by decide +kernel
theorem dX5_copy_90 : decode cX5_copy 90 = .ok (.ifCond .ne 6, 3) := by decide +kernel
theorem dX5_copy_93 : decode cX5_copy 93 = .ok (.bipush (-12), 2) := by decide +kernel
theorem dX5_copy_95 : decode cX5_copy 95 = .ok (.ireturn, 1) := by decide +kernel
theorem dX5_copy_96 : decode cX5_copy 96 = .ok (.aload 6, 2) := by decide +kernel
theorem dX5_copy_98 : decode cX5_copy 98 = .ok (.getfield 255, 3) := by decide +kernel
theorem dX5_copy_101 : decode cX5_copy 101 = .ok (.iload_n 2, 1) := by decide +kernel
theorem dX5_copy_102 : decode cX5_copy 102 = .ok (.aload 7, 2) := by decide +kernel
theorem dX5_copy_104 : decode cX5_copy 104 = .ok (.getfield 255, 3) := by decide +kernel
theorem dX5_copy_107 : decode cX5_copy 107 = .ok (.iload 4, 2) := by decide +kernel
theorem dX5_copy_109 : decode cX5_copy 109 = .ok (.iload 5, 2) := by decide +kernel
theorem dX5_copy_111 : decode cX5_copy 111 = .ok (.invokestatic 278, 3) := by decide +kernel
theorem dX5_copy_114 : decode cX5_copy 114 = .ok (.iload 5, 2) := by decide +kernel
theorem dX5_copy_116 : decode cX5_copy 116 = .ok (.ireturn, 1) := by decide +kernel
set_option maxRecDepth 20000 in
theorem ggX5_witnessesBy_X5_isBelow : GoodIn wsX5_witnessesBy wsX5_isBelow := goodIn_r _ [5] (by decide +kernel) (by decide +kernel)
set_option maxRecDepth 20000 in
theorem gX5_witnessesBy_X5_isBelow : GoodIn wsX5_witnessesBy (va_wsS RX5 100 yX5_isBelow wsX5_isBelow) := goodIn_app (goodIn_of _ (by decide +kernel)) ggX5_witnessesBy_X5_isBelow
set_option maxRecDepth 20000 in
theorem ggX5_witnessesBy_X3_isMissing : GoodIn wsX5_witnessesBy wsX3_isMissing := goodIn_r _ [10, 11, 44, 45, 46] (by decide +kernel) (by decide +kernel)
set_option maxRecDepth 20000 in
theorem gX5_witnessesBy_X3_isMissing : GoodIn wsX5_witnessesBy (wsV RX5 250 RX3 yX3_isMissing wsX3_isMissing) := goodIn_app (goodIn_of _ (by decide +kernel)) ggX5_witnessesBy_X3_isMissing
set_option maxRecDepth 20000 in
theorem ggX5_witnessesBy_X3_has : GoodIn wsX5_witnessesBy wsX3_has := goodIn_r _ [15, 16, 44, 45, 46] (by decide +kernel) (by decide +kernel)
set_option maxRecDepth 20000 in
theorem gX5_witnessesBy_X3_has : GoodIn wsX5_witnessesBy (wsV RX5 275 RX3 yX3_has wsX3_has) := goodIn_app (goodIn_of _ (by decide +kernel)) ggX5_witnessesBy_X3_has
set_option maxRecDepth 20000 in
theorem ggX5_witnessesBy_X5_witness : GoodIn wsX5_witnessesBy wsX5_witness := goodIn_r _ [20, 21, 2, 3, 4, 5, 22, 23, 24, 25, 26, 27, 28, 29, 30, 31, 32, 33, 34, 35, 36, 37, 38, 39, 40, 41, 42, 43, 47, 48, 49, 50, 51, 52, 53, 54, 55, 56, 57, 58, 59, 60, 61] (by decide +kernel) (by decide +kernel)
set_option maxRecDepth 20000 in
theorem gX5_witnessesBy_X5_witness : GoodIn wsX5_witnessesBy (wsV RX5 284 RX5 yX5_witness wsX5_witness) := goodIn_app (goodIn_of _ (by decide +kernel)) ggX5_witnessesBy_X5_witness
theorem dX5_witnessesBy_0 : decode cX5_witnessesBy 0 = .ok (.iload_n 1, 1) := by decide +kernel
theorem dX5_witnessesBy_1 : decode cX5_witnessesBy 1 = .ok (.iconst 4, 1) := by decide +kernel
theorem dX5_witnessesBy_2 : decode cX5_witnessesBy 2 = .ok (.invokestatic 100, 3) := by decide +kernel
theorem dX5_witnessesBy_5 : decode cX5_witnessesBy 5 = .ok (.ifCond .eq 21, 3) := by decide +kernel
theorem dX5_witnessesBy_8 : decode cX5_witnessesBy 8 = .ok (.iload_n 2, 1) := by decide +kernel
theorem dX5_witnessesBy_9 : decode cX5_witnessesBy 9 = .ok (.iconst 3, 1) := by decide +kernel
theorem dX5_witnessesBy_10 : decode cX5_witnessesBy 10 = .ok (.invokestatic 100, 3) := by decide +kernel
theorem dX5_witnessesBy_13 : decode cX5_witnessesBy 13 = .ok (.ifCond .eq 13, 3) := by decide +kernel
theorem dX5_witnessesBy_16 : decode cX5_witnessesBy 16 = .ok (.iload 4, 2) := by decide +kernel
theorem dX5_witnessesBy_18 : decode cX5_witnessesBy 18 = .ok (.bipush 7, 2) := by decide +kernel
theorem dX5_witnessesBy_20 : decode cX5_witnessesBy 20 = .ok (.invokestatic 100, 3) := by decide +kernel
theorem dX5_witnessesBy_23 : decode cX5_witnessesBy 23 = .ok (.ifCond .ne 6, 3) := by decide +kernel
theorem dX5_witnessesBy_26 : decode cX5_witnessesBy 26 = .ok (.bipush (-2), 2) := by decide +kernel
theorem dX5_witnessesBy_28 : decode cX5_witnessesBy 28 = .ok (.ireturn, 1) := by decide +kernel
theorem dX5_witnessesBy_29 : decode cX5_witnessesBy 29 = .ok (.aload_n 0, 1) := by decide +kernel
theorem dX5_witnessesBy_30 : decode cX5_witnessesBy 30 = .ok (.getfield 24, 3) := by decide +kernel
theorem dX5_witnessesBy_33 : decode cX5_witnessesBy 33 = .ok (.iload_n 1, 1) := by decide +kernel
theorem dX5_witnessesBy_34 : decode cX5_witnessesBy 34 = .ok (.aaload, 1) := by decide +kernel
theorem dX5_witnessesBy_35 : decode cX5_witnessesBy 35 = .ok (.astore 5, 2) := by decide +kernel
theorem dX5_witnessesBy_37 : decode cX5_witnessesBy 37 = .ok (.aload 5, 2) := by decide +kernel
theorem dX5_witnessesBy_39 : decode cX5_witnessesBy 39 = .ok (.invokevirtual 250, 3) := by decide +kernel
theorem dX5_witnessesBy_42 : decode cX5_witnessesBy 42 = .ok (.ifCond .eq 6, 3) := by decide +kernel
theorem dX5_witnessesBy_45 : decode cX5_witnessesBy 45 = .ok (.bipush (-11), 2) := by decide +kernel
theorem dX5_witnessesBy_47 : decode cX5_witnessesBy 47 = .ok (.ireturn, 1) := by decide +kernel
theorem dX5_witnessesBy_48 : decode cX5_witnessesBy 48 = .ok (.aload 5, 2) := by decide +kernel
theorem dX5_witnessesBy_50 : decode cX5_witnessesBy 50 = .ok (.getfield 272, 3) := by decide +kernel
theorem dX5_witnessesBy_53 : decode cX5_witnessesBy 53 = .ok (.iload_n 2, 1) := by decide +kernel
theorem dX5_witnessesBy_54 : decode cX5_witnessesBy 54 = .ok (.if_icmp .eq 6, 3) := by decide +kernel
theorem dX5_witnessesBy_57 : decode cX5_witnessesBy 57 = .ok (.bipush (-13), 2) := by decide +kernel
theorem dX5_witnessesBy_59 : decode cX5_witnessesBy 59 = .ok (.ireturn, 1) := by decide +kernel
theorem dX5_witnessesBy_60 : decode cX5_witnessesBy 60 = .ok (.iconst 0, 1) := by decide +kernel
theorem dX5_witnessesBy_61 : decode cX5_witnessesBy 61 = .ok (.istore 6, 2) := by decide +kernel
theorem dX5_witnessesBy_63 : decode cX5_witnessesBy 63 = .ok (.iconst 0, 1) := by decide +kernel
theorem dX5_witnessesBy_64 : decode cX5_witnessesBy 64 = .ok (.istore 7, 2) := by decide +kernel
theorem dX5_witnessesBy_66 : decode cX5_witnessesBy 66 = .ok (.iload 7, 2) := by decide +kernel
theorem dX5_witnessesBy_68 : decode cX5_witnessesBy 68 = .ok (.iload 4, 2) := by decide +kernel
theorem dX5_witnessesBy_70 : decode cX5_witnessesBy 70 = .ok (.if_icmp .ge 76, 3) := by decide +kernel
theorem dX5_witnessesBy_73 : decode cX5_witnessesBy 73 = .ok (.iload_n 3, 1) := by decide +kernel
theorem dX5_witnessesBy_74 : decode cX5_witnessesBy 74 = .ok (.iconst 3, 1) := by decide +kernel
theorem dX5_witnessesBy_75 : decode cX5_witnessesBy 75 = .ok (.iload 7, 2) := by decide +kernel
theorem dX5_witnessesBy_77 : decode cX5_witnessesBy 77 = .ok (.imul, 1) := by decide +kernel
theorem dX5_witnessesBy_78 : decode cX5_witnessesBy 78 = .ok (.iadd, 1) := by decide +kernel
theorem dX5_witnessesBy_79 : decode cX5_witnessesBy 79 = .ok (.istore 8, 2) := by decide +kernel
theorem dX5_witnessesBy_81 : decode cX5_witnessesBy 81 = .ok (.aload 5, 2) := by decide +kernel
theorem dX5_witnessesBy_83 : decode cX5_witnessesBy 83 = .ok (.iload 8, 2) := by decide +kernel
theorem dX5_witnessesBy_85 : decode cX5_witnessesBy 85 = .ok (.iconst 3, 1) := by decide +kernel
theorem dX5_witnessesBy_86 : decode cX5_witnessesBy 86 = .ok (.invokevirtual 275, 3) := by decide +kernel
theorem dX5_witnessesBy_89 : decode cX5_witnessesBy 89 = .ok (.ifCond .ne 6, 3) := by decide +kernel
theorem dX5_witnessesBy_92 : decode cX5_witnessesBy 92 = .ok (.bipush (-12), 2) := by decide +kernel
theorem dX5_witnessesBy_94 : decode cX5_witnessesBy 94 = .ok (.ireturn, 1) := by decide +kernel
theorem dX5_witnessesBy_95 : decode cX5_witnessesBy 95 = .ok (.iload 6, 2) := by decide +kernel
theorem dX5_witnessesBy_97 : decode cX5_witnessesBy 97 = .ok (.aload_n 0, 1) := by decide +kernel
theorem dX5_witnessesBy_98 : decode cX5_witnessesBy 98 = .ok (.aload 5, 2) := by decide +kernel
theorem dX5_witnessesBy_100 : decode cX5_witnessesBy 100 = .ok (.getfield 255, 3) := by decide +kernel
theorem dX5_witnessesBy_103 : decode cX5_witnessesBy 103 = .ok (.iload 8, 2) := by decide +kernel
theorem dX5_witnessesBy_105 : decode cX5_witnessesBy 105 = .ok (.iaload, 1) := by decide +kernel
theorem dX5_witnessesBy_106 : decode cX5_witnessesBy 106 = .ok (.aload 5, 2) := by decide +kernel
theorem dX5_witnessesBy_108 : decode cX5_witnessesBy 108 = .ok (.getfield 255, 3) := by decide +kernel
theorem dX5_witnessesBy_111 : decode cX5_witnessesBy 111 = .ok (.iload 8, 2) := by decide +kernel
theorem dX5_witnessesBy_113 : decode cX5_witnessesBy 113 = .ok (.iconst 1, 1) := by decide +kernel
theorem dX5_witnessesBy_114 : decode cX5_witnessesBy 114 = .ok (.iadd, 1) := by decide +kernel
theorem dX5_witnessesBy_115 : decode cX5_witnessesBy 115 = .ok (.iaload, 1) := by decide +kernel
theorem dX5_witnessesBy_116 : decode cX5_witnessesBy 116 = .ok (.aload 5, 2) := by decide +kernel
theorem dX5_witnessesBy_118 : decode cX5_witnessesBy 118 = .ok (.getfield 255, 3) := by decide +kernel
theorem dX5_witnessesBy_121 : decode cX5_witnessesBy 121 = .ok (.iload 8, 2) := by decide +kernel
theorem dX5_witnessesBy_123 : decode cX5_witnessesBy 123 = .ok (.iconst 2, 1) := by decide +kernel
theorem dX5_witnessesBy_124 : decode cX5_witnessesBy 124 = .ok (.iadd, 1) := by decide +kernel
theorem dX5_witnessesBy_125 : decode cX5_witnessesBy 125 = .ok (.iaload, 1) := by decide +kernel
theorem dX5_witnessesBy_126 : decode cX5_witnessesBy 126 = .ok (.invokevirtual 284, 3) := by decide +kernel
theorem dX5_witnessesBy_129 : decode cX5_witnessesBy 129 = .ok (.ifCond .lt 7, 3) := by decide +kernel
theorem dX5_witnessesBy_132 : decode cX5_witnessesBy 132 = .ok (.iconst 1, 1) := by decide +kernel
theorem dX5_witnessesBy_133 : decode cX5_witnessesBy 133 = .ok (.goto 4, 3) := by decide +kernel
theorem dX5_witnessesBy_136 : decode cX5_witnessesBy 136 = .ok (.iconst 0, 1) := by decide +kernel
theorem dX5_witnessesBy_137 : decode cX5_witnessesBy 137 = .ok (.iadd, 1) := by decide +kernel
theorem dX5_witnessesBy_138 : decode cX5_witnessesBy 138 = .ok (.istore 6, 2) := by decide +kernel
theorem dX5_witnessesBy_140 : decode cX5_witnessesBy 140 = .ok (.iinc 7 1, 3) := by decide +kernel
theorem dX5_witnessesBy_143 : decode cX5_witnessesBy 143 = .ok (.goto (-77), 3) := by decide +kernel
theorem dX5_witnessesBy_146 : decode cX5_witnessesBy 146 = .ok (.iload 6, 2) := by decide +kernel
theorem dX5_witnessesBy_148 : decode cX5_witnessesBy 148 = .ok (.ireturn, 1) := by decide +kernel
set_option maxRecDepth 20000 in
theorem ggX5_taken_X5_isBelow : GoodIn wsX5_taken wsX5_isBelow := goodIn_r _ [5] (by decide +kernel) (by decide +kernel)
set_option maxRecDepth 20000 in
theorem gX5_taken_X5_isBelow : GoodIn wsX5_taken (va_wsS RX5 100 yX5_isBelow wsX5_isBelow) := goodIn_app (goodIn_of _ (by decide +kernel)) ggX5_taken_X5_isBelow
set_option maxRecDepth 20000 in
theorem ggX5_taken_X0_hasWitness : GoodIn wsX5_taken wsX0_hasWitness := goodIn_r _ [10, 11, 3, 4, 5, 32, 33, 34, 35, 36, 37, 38, 39, 40, 41, 42, 43, 44, 45, 46] (by decide +kernel) (by decide +kernel)
set_option maxRecDepth 20000 in
theorem gX5_taken_X0_hasWitness : GoodIn wsX5_taken (wsV RX5 118 RX0 yX0_hasWitness wsX0_hasWitness) := goodIn_app (goodIn_of _ (by decide +kernel)) ggX5_taken_X0_hasWitness
set_option maxRecDepth 20000 in
theorem ggX5_taken_X0_lies : GoodIn wsX5_taken wsX0_lies := goodIn_r _ [15, 16, 3, 4, 5, 32, 33, 34, 35, 36, 37, 38, 39, 40, 41, 42, 43, 44, 45, 46] (by decide +kernel) (by decide +kernel)
set_option maxRecDepth 20000 in
theorem gX5_taken_X0_lies : GoodIn wsX5_taken (wsV RX5 163 RX0 yX0_lies wsX0_lies) := goodIn_app (goodIn_of _ (by decide +kernel)) ggX5_taken_X0_lies
set_option maxRecDepth 20000 in
theorem ggX5_taken_X1_isOne : GoodIn wsX5_taken wsX1_isOne := goodIn_r _ [20] (by decide +kernel) (by decide +kernel)
set_option maxRecDepth 20000 in
theorem gX5_taken_X1_isOne : GoodIn wsX5_taken (va_wsS RX5 287 yX1_isOne wsX1_isOne) := goodIn_app (goodIn_of _ (by decide +kernel)) ggX5_taken_X1_isOne
theorem dX5_taken_0 : decode cX5_taken 0 = .ok (.iload_n 2, 1) := by decide +kernel
theorem dX5_taken_1 : decode cX5_taken 1 = .ok (.bipush 7, 2) := by decide +kernel
theorem dX5_taken_3 : decode cX5_taken 3 = .ok (.invokestatic 100, 3) := by decide +kernel
theorem dX5_taken_6 : decode cX5_taken 6 = .ok (.ifCond .ne 6, 3) := by decide +kernel
theorem dX5_taken_9 : decode cX5_taken 9 = .ok (.bipush (-2), 2) := by decide +kernel
theorem dX5_taken_11 : decode cX5_taken 11 = .ok (.ireturn, 1) := by decide +kernel
theorem dX5_taken_12 : decode cX5_taken 12 = .ok (.iload_n 1, 1) := by decide +kernel
theorem dX5_taken_13 : decode cX5_taken 13 = .ok (.bipush 14, 2) := by decide +kernel
theorem dX5_taken_15 : decode cX5_taken 15 = .ok (.invokestatic 100, 3) := by decide +kernel
theorem dX5_taken_18 : decode cX5_taken 18 = .ok (.ifCond .ne 6, 3) := by decide +kernel
theorem dX5_taken_21 : decode cX5_taken 21 = .ok (.bipush (-12), 2) := by decide +kernel
theorem dX5_taken_23 : decode cX5_taken 23 = .ok (.ireturn, 1) := by decide +kernel
theorem dX5_taken_24 : decode cX5_taken 24 = .ok (.iload_n 1, 1) := by decide +kernel
theorem dX5_taken_25 : decode cX5_taken 25 = .ok (.bipush 6, 2) := by decide +kernel
theorem dX5_taken_27 : decode cX5_taken 27 = .ok (.if_icmp .ge 7, 3) := by decide +kernel
theorem dX5_taken_30 : decode cX5_taken 30 = .ok (.iconst 1, 1) := by decide +kernel
theorem dX5_taken_31 : decode cX5_taken 31 = .ok (.goto 4, 3) := by decide +kernel
theorem dX5_taken_34 : decode cX5_taken 34 = .ok (.iconst 0, 1) := by decide +kernel
theorem dX5_taken_35 : decode cX5_taken 35 = .ok (.istore_n 3, 1) := by decide +kernel
theorem dX5_taken_36 : decode cX5_taken 36 = .ok (.iload_n 3, 1) := by decide +kernel
theorem dX5_taken_37 : decode cX5_taken 37 = .ok (.ifCond .eq 17, 3) := by decide +kernel
theorem dX5_taken_40 : decode cX5_taken 40 = .ok (.aload_n 0, 1) := by decide +kernel
theorem dX5_taken_41 : decode cX5_taken 41 = .ok (.getfield 44, 3) := by decide +kernel
theorem dX5_taken_44 : decode cX5_taken 44 = .ok (.iload_n 1, 1) := by decide +kernel
theorem dX5_taken_45 : decode cX5_taken 45 = .ok (.invokevirtual 118, 3) := by decide +kernel
theorem dX5_taken_48 : decode cX5_taken 48 = .ok (.ifCond .ne 23, 3) := by decide +kernel
theorem dX5_taken_51 : decode cX5_taken 51 = .ok (.goto 17, 3) := by decide +kernel
theorem dX5_taken_54 : decode cX5_taken 54 = .ok (.aload_n 0, 1) := by decide +kernel
theorem dX5_taken_55 : decode cX5_taken 55 = .ok (.getfield 44, 3) := by decide +kernel
theorem dX5_taken_58 : decode cX5_taken 58 = .ok (.iload_n 1, 1) := by decide +kernel
theorem dX5_taken_59 : decode cX5_taken 59 = .ok (.bipush 6, 2) := by decide +kernel
theorem dX5_taken_61 : decode cX5_taken 61 = .ok (.isub, 1) := by decide +kernel
theorem dX5_taken_62 : decode cX5_taken 62 = .ok (.invokevirtual 163, 3) := by decide +kernel
theorem dX5_taken_65 : decode cX5_taken 65 = .ok (.ifCond .ne 6, 3) := by decide +kernel
theorem dX5_taken_68 : decode cX5_taken 68 = .ok (.bipush (-11), 2) := by decide +kernel
theorem dX5_taken_70 : decode cX5_taken 70 = .ok (.ireturn, 1) := by decide +kernel
theorem dX5_taken_71 : decode cX5_taken 71 = .ok (.iload_n 3, 1) := by decide +kernel
theorem dX5_taken_72 : decode cX5_taken 72 = .ok (.ifCond .eq 26, 3) := by decide +kernel
theorem dX5_taken_75 : decode cX5_taken 75 = .ok (.aload_n 0, 1) := by decide +kernel
theorem dX5_taken_76 : decode cX5_taken 76 = .ok (.getfield 44, 3) := by decide +kernel
theorem dX5_taken_79 : decode cX5_taken 79 = .ok (.getfield 138, 3) := by decide +kernel
theorem dX5_taken_82 : decode cX5_taken 82 = .ok (.iload_n 1, 1) := by decide +kernel
theorem dX5_taken_83 : decode cX5_taken 83 = .ok (.iaload, 1) := by decide +kernel
theorem dX5_taken_84 : decode cX5_taken 84 = .ok (.iload_n 2, 1) := by decide +kernel
theorem dX5_taken_85 : decode cX5_taken 85 = .ok (.invokestatic 287, 3) := by decide +kernel
theorem dX5_taken_88 : decode cX5_taken 88 = .ok (.ifCond .eq 7, 3) := by decide +kernel
theorem dX5_taken_91 : decode cX5_taken 91 = .ok (.iload_n 1, 1) := by decide +kernel
theorem dX5_taken_92 : decode cX5_taken 92 = .ok (.goto 5, 3) := by decide +kernel
theorem dX5_taken_95 : decode cX5_taken 95 = .ok (.bipush (-13), 2) := by decide +kernel
theorem dX5_taken_97 : decode cX5_taken 97 = .ok (.ireturn, 1) := by decide +kernel
theorem dX5_taken_98 : decode cX5_taken 98 = .ok (.iload_n 2, 1) := by decide +kernel
theorem dX5_taken_99 : decode cX5_taken 99 = .ok (.bipush 6, 2) := by decide +kernel
theorem dX5_taken_101 : decode cX5_taken 101 = .ok (.if_icmp .ne 18, 3) := by decide +kernel
theorem dX5_taken_104 : decode cX5_taken 104 = .ok (.aload_n 0, 1) := by decide +kernel
theorem dX5_taken_105 : decode cX5_taken 105 = .ok (.getfield 44, 3) := by decide +kernel
theorem dX5_taken_108 : decode cX5_taken 108 = .ok (.getfield 169, 3) := by decide +kernel
theorem dX5_taken_111 : decode cX5_taken 111 = .ok (.iload_n 1, 1) := by decide +kernel
theorem dX5_taken_112 : decode cX5_taken 112 = .ok (.bipush 6, 2) := by decide +kernel
theorem dX5_taken_114 : decode cX5_taken 114 = .ok (.isub, 1) := by decide +kernel
theorem dX5_taken_115 : decode cX5_taken 115 = .ok (.iaload, 1) := by decide +kernel
theorem dX5_taken_116 : decode cX5_taken 116 = .ok (.goto 5, 3) := by decide +kernel
theorem dX5_taken_119 : decode cX5_taken 119 = .ok (.bipush (-13), 2) := by decide +kernel
theorem dX5_taken_121 : decode cX5_taken 121 = .ok (.ireturn, 1) := by decide +kernel
theorem dX5_replaced_0 : decode cX5_replaced 0 = .ok (.aload_n 0, 1) := by decide +kernel
theorem dX5_replaced_1 : decode cX5_replaced 1 = .ok (.iload_n 1, 1) := by decide +kernel
theorem dX5_replaced_2 : decode cX5_replaced 2 = .ok (.iaload, 1) := by decide +kernel
theorem dX5_replaced_3 : decode cX5_replaced 3 = .ok (.istore_n 3, 1) := by decide +kernel
theorem dX5_replaced_4 : decode cX5_replaced 4 = .ok (.aload_n 0, 1) := by decide +kernel
theorem dX5_replaced_5 : decode cX5_replaced 5 = .ok (.iload_n 1, 1) := by decide +kernel
theorem dX5_replaced_6 : decode cX5_replaced 6 = .ok (.iload_n 2, 1) := by decide +kernel
theorem dX5_replaced_7 : decode cX5_replaced 7 = .ok (.iastore, 1) := by decide +kernel
theorem dX5_replaced_8 : decode cX5_replaced 8 = .ok (.iload_n 3, 1) := by decide +kernel
theorem dX5_replaced_9 : decode cX5_replaced 9 = .ok (.ireturn, 1) := by decide +kernel

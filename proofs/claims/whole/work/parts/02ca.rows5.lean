set_option maxRecDepth 20000 in
theorem ggX5_init_X4_init : GoodIn wsX5_init wsX4_init := goodIn_r _ [26, 27, 2, 3, 16, 28, 29, 30, 75, 76, 77, 78, 79, 80, 81, 82, 83] rfl (by decide +kernel)
set_option maxRecDepth 20000 in
theorem gX5_init_X4_init_n17 : GoodIn wsX5_init (wsX4_init) := ggX5_init_X4_init
set_option maxRecDepth 20000 in
theorem ggX5_init_X2_init : GoodIn wsX5_init wsX2_init := goodIn_r _ [33, 34, 2, 3, 35, 36, 37, 38, 84, 85, 86, 87] rfl (by decide +kernel)
set_option maxRecDepth 20000 in
theorem gX5_init_X2_init : GoodIn wsX5_init (wsX2_init) := ggX5_init_X2_init
set_option maxRecDepth 20000 in
theorem ggX5_init_X0_init : GoodIn wsX5_init wsX0_init := goodIn_r _ [41, 42, 2, 3, 16, 43, 44, 45, 46, 47, 48, 49, 50, 51, 52, 53, 54, 55, 56, 57, 58, 88, 89, 90, 91, 92, 93, 94, 95, 96, 97, 98, 99, 100, 101, 102] rfl (by decide +kernel)
set_option maxRecDepth 20000 in
theorem gX5_init_X0_init : GoodIn wsX5_init (wsX0_init) := ggX5_init_X0_init
set_option maxRecDepth 20000 in
theorem ggX5_init_X3_init : GoodIn wsX5_init wsX3_init := goodIn_r _ [60, 61, 2, 3, 16, 62, 63, 103, 104, 105] rfl (by decide +kernel)
set_option maxRecDepth 20000 in
theorem gX5_init_X3_init_n54 : GoodIn wsX5_init (wsX3_init) := ggX5_init_X3_init
theorem dX5_init_0 : decode cX5_init 0 = .ok (.aload_n 0, 1) := by decide +kernel
theorem dX5_init_1 : decode cX5_init 1 = .ok (.invokespecial 1, 3) := by decide +kernel
theorem dX5_init_4 : decode cX5_init 4 = .ok (.aload_n 0, 1) := by decide +kernel
theorem dX5_init_5 : decode cX5_init 5 = .ok (.bipush 6, 2) := by decide +kernel
theorem dX5_init_7 : decode cX5_init 7 = .ok (.anewarray 9, 3) := by decide +kernel
theorem dX5_init_10 : decode cX5_init 10 = .ok (.putfield 11, 3) := by decide +kernel
theorem dX5_init_13 : decode cX5_init 13 = .ok (.aload_n 0, 1) := by decide +kernel
theorem dX5_init_14 : decode cX5_init 14 = .ok (.new 15, 3) := by decide +kernel
theorem dX5_init_17 : decode cX5_init 17 = .ok (.dup, 1) := by decide +kernel
theorem dX5_init_18 : decode cX5_init 18 = .ok (.invokespecial 17, 3) := by decide +kernel
theorem dX5_init_21 : decode cX5_init 21 = .ok (.putfield 18, 3) := by decide +kernel
theorem dX5_init_24 : decode cX5_init 24 = .ok (.aload_n 0, 1) := by decide +kernel
theorem dX5_init_25 : decode cX5_init 25 = .ok (.iconst 4, 1) := by decide +kernel
theorem dX5_init_26 : decode cX5_init 26 = .ok (.anewarray 22, 3) := by decide +kernel
theorem dX5_init_29 : decode cX5_init 29 = .ok (.putfield 24, 3) := by decide +kernel
theorem dX5_init_32 : decode cX5_init 32 = .ok (.aload_n 0, 1) := by decide +kernel
theorem dX5_init_33 : decode cX5_init 33 = .ok (.iconst 4, 1) := by decide +kernel
theorem dX5_init_34 : decode cX5_init 34 = .ok (.anewarray 28, 3) := by decide +kernel
theorem dX5_init_37 : decode cX5_init 37 = .ok (.putfield 30, 3) := by decide +kernel
theorem dX5_init_40 : decode cX5_init 40 = .ok (.new 9, 3) := by decide +kernel
theorem dX5_init_43 : decode cX5_init 43 = .ok (.dup, 1) := by decide +kernel
theorem dX5_init_44 : decode cX5_init 44 = .ok (.iconst 0, 1) := by decide +kernel
theorem dX5_init_45 : decode cX5_init 45 = .ok (.iconst 3, 1) := by decide +kernel
theorem dX5_init_46 : decode cX5_init 46 = .ok (.newarray .int, 2) := by decide +kernel
theorem dX5_init_48 : decode cX5_init 48 = .ok (.dup, 1) := by decide +kernel
theorem dX5_init_49 : decode cX5_init 49 = .ok (.iconst 0, 1) := by decide +kernel
theorem dX5_init_50 : decode cX5_init 50 = .ok (.iconst (-1), 1) := by decide +kernel
theorem dX5_init_51 : decode cX5_init 51 = .ok (.iastore, 1) := by decide +kernel
theorem dX5_init_52 : decode cX5_init 52 = .ok (.dup, 1) := by decide +kernel
theorem dX5_init_53 : decode cX5_init 53 = .ok (.iconst 1, 1) := by decide +kernel
theorem dX5_init_54 : decode cX5_init 54 = .ok (.bipush 6, 2) := by decide +kernel
theorem dX5_init_56 : decode cX5_init 56 = .ok (.iastore, 1) := by decide +kernel
theorem dX5_init_57 : decode cX5_init 57 = .ok (.dup, 1) := by decide +kernel
theorem dX5_init_58 : decode cX5_init 58 = .ok (.iconst 2, 1) := by decide +kernel
theorem dX5_init_59 : decode cX5_init 59 = .ok (.bipush (-3), 2) := by decide +kernel
theorem dX5_init_61 : decode cX5_init 61 = .ok (.iastore, 1) := by decide +kernel
theorem dX5_init_62 : decode cX5_init 62 = .ok (.iconst 1, 1) := by decide +kernel
theorem dX5_init_63 : decode cX5_init 63 = .ok (.iconst 2, 1) := by decide +kernel
theorem dX5_init_64 : decode cX5_init 64 = .ok (.invokespecial 34, 3) := by decide +kernel
theorem dX5_init_67 : decode cX5_init 67 = .ok (.astore_n 1, 1) := by decide +kernel
theorem dX5_init_68 : decode cX5_init 68 = .ok (.aload_n 0, 1) := by decide +kernel
theorem dX5_init_69 : decode cX5_init 69 = .ok (.getfield 11, 3) := by decide +kernel
theorem dX5_init_72 : decode cX5_init 72 = .ok (.iconst 0, 1) := by decide +kernel
theorem dX5_init_73 : decode cX5_init 73 = .ok (.aload_n 1, 1) := by decide +kernel
theorem dX5_init_74 : decode cX5_init 74 = .ok (.aastore, 1) := by decide +kernel
theorem dX5_init_75 : decode cX5_init 75 = .ok (.aload_n 0, 1) := by decide +kernel
theorem dX5_init_76 : decode cX5_init 76 = .ok (.iconst 1, 1) := by decide +kernel
theorem dX5_init_77 : decode cX5_init 77 = .ok (.putfield 37, 3) := by decide +kernel
theorem dX5_init_80 : decode cX5_init 80 = .ok (.sipush 160, 3) := by decide +kernel
theorem dX5_init_83 : decode cX5_init 83 = .ok (.newarray .int, 2) := by decide +kernel
theorem dX5_init_85 : decode cX5_init 85 = .ok (.astore_n 2, 1) := by decide +kernel
theorem dX5_init_86 : decode cX5_init 86 = .ok (.aload_n 0, 1) := by decide +kernel
theorem dX5_init_87 : decode cX5_init 87 = .ok (.new 28, 3) := by decide +kernel
theorem dX5_init_90 : decode cX5_init 90 = .ok (.dup, 1) := by decide +kernel
theorem dX5_init_91 : decode cX5_init 91 = .ok (.aload_n 1, 1) := by decide +kernel
theorem dX5_init_92 : decode cX5_init 92 = .ok (.aload_n 2, 1) := by decide +kernel
theorem dX5_init_93 : decode cX5_init 93 = .ok (.invokespecial 41, 3) := by decide +kernel
theorem dX5_init_96 : decode cX5_init 96 = .ok (.putfield 44, 3) := by decide +kernel
theorem dX5_init_99 : decode cX5_init 99 = .ok (.aload_n 0, 1) := by decide +kernel
theorem dX5_init_100 : decode cX5_init 100 = .ok (.new 28, 3) := by decide +kernel
theorem dX5_init_103 : decode cX5_init 103 = .ok (.dup, 1) := by decide +kernel
theorem dX5_init_104 : decode cX5_init 104 = .ok (.aload_n 1, 1) := by decide +kernel
theorem dX5_init_105 : decode cX5_init 105 = .ok (.aload_n 2, 1) := by decide +kernel
theorem dX5_init_106 : decode cX5_init 106 = .ok (.invokespecial 41, 3) := by decide +kernel
theorem dX5_init_109 : decode cX5_init 109 = .ok (.putfield 48, 3) := by decide +kernel
theorem dX5_init_112 : decode cX5_init 112 = .ok (.aload_n 0, 1) := by decide +kernel
theorem dX5_init_113 : decode cX5_init 113 = .ok (.new 28, 3) := by decide +kernel
theorem dX5_init_116 : decode cX5_init 116 = .ok (.dup, 1) := by decide +kernel
theorem dX5_init_117 : decode cX5_init 117 = .ok (.aload_n 1, 1) := by decide +kernel
theorem dX5_init_118 : decode cX5_init 118 = .ok (.aload_n 2, 1) := by decide +kernel
theorem dX5_init_119 : decode cX5_init 119 = .ok (.invokespecial 41, 3) := by decide +kernel
theorem dX5_init_122 : decode cX5_init 122 = .ok (.putfield 51, 3) := by decide +kernel
theorem dX5_init_125 : decode cX5_init 125 = .ok (.aload_n 0, 1) := by decide +kernel
theorem dX5_init_126 : decode cX5_init 126 = .ok (.getfield 30, 3) := by decide +kernel
theorem dX5_init_129 : decode cX5_init 129 = .ok (.iconst 0, 1) := by decide +kernel
theorem dX5_init_130 : decode cX5_init 130 = .ok (.aload_n 0, 1) := by decide +kernel
theorem dX5_init_131 : decode cX5_init 131 = .ok (.getfield 44, 3) := by decide +kernel
theorem dX5_init_134 : decode cX5_init 134 = .ok (.aastore, 1) := by decide +kernel
theorem dX5_init_135 : decode cX5_init 135 = .ok (.iconst 1, 1) := by decide +kernel
theorem dX5_init_136 : decode cX5_init 136 = .ok (.istore_n 3, 1) := by decide +kernel
theorem dX5_init_137 : decode cX5_init 137 = .ok (.iload_n 3, 1) := by decide +kernel
theorem dX5_init_138 : decode cX5_init 138 = .ok (.aload_n 0, 1) := by decide +kernel
theorem dX5_init_139 : decode cX5_init 139 = .ok (.getfield 30, 3) := by decide +kernel
theorem dX5_init_142 : decode cX5_init 142 = .ok (.arraylength, 1) := by decide +kernel
theorem dX5_init_143 : decode cX5_init 143 = .ok (.if_icmp .ge 24, 3) := by decide +kernel
theorem dX5_init_146 : decode cX5_init 146 = .ok (.aload_n 0, 1) := by decide +kernel
theorem dX5_init_147 : decode cX5_init 147 = .ok (.getfield 30, 3) := by decide +kernel
theorem dX5_init_150 : decode cX5_init 150 = .ok (.iload_n 3, 1) := by decide +kernel
theorem dX5_init_151 : decode cX5_init 151 = .ok (.new 28, 3) := by decide +kernel
theorem dX5_init_154 : decode cX5_init 154 = .ok (.dup, 1) := by decide +kernel
theorem dX5_init_155 : decode cX5_init 155 = .ok (.aload_n 1, 1) := by decide +kernel
theorem dX5_init_156 : decode cX5_init 156 = .ok (.aload_n 2, 1) := by decide +kernel
theorem dX5_init_157 : decode cX5_init 157 = .ok (.invokespecial 41, 3) := by decide +kernel
theorem dX5_init_160 : decode cX5_init 160 = .ok (.aastore, 1) := by decide +kernel
theorem dX5_init_161 : decode cX5_init 161 = .ok (.iinc 3 1, 3) := by decide +kernel
theorem dX5_init_164 : decode cX5_init 164 = .ok (.goto (-27), 3) := by decide +kernel
theorem dX5_init_167 : decode cX5_init 167 = .ok (.iconst 0, 1) := by decide +kernel
theorem dX5_init_168 : decode cX5_init 168 = .ok (.istore_n 3, 1) := by decide +kernel
theorem dX5_init_169 : decode cX5_init 169 = .ok (.iload_n 3, 1) := by decide +kernel
theorem dX5_init_170 : decode cX5_init 170 = .ok (.iconst 4, 1) := by decide +kernel
theorem dX5_init_171 : decode cX5_init 171 = .ok (.if_icmp .ge 22, 3) := by decide +kernel
theorem dX5_init_174 : decode cX5_init 174 = .ok (.aload_n 0, 1) := by decide +kernel
theorem dX5_init_175 : decode cX5_init 175 = .ok (.getfield 24, 3) := by decide +kernel
theorem dX5_init_178 : decode cX5_init 178 = .ok (.iload_n 3, 1) := by decide +kernel
theorem dX5_init_179 : decode cX5_init 179 = .ok (.new 22, 3) := by decide +kernel
theorem dX5_init_182 : decode cX5_init 182 = .ok (.dup, 1) := by decide +kernel
theorem dX5_init_183 : decode cX5_init 183 = .ok (.invokespecial 54, 3) := by decide +kernel
theorem dX5_init_186 : decode cX5_init 186 = .ok (.aastore, 1) := by decide +kernel
theorem dX5_init_187 : decode cX5_init 187 = .ok (.iinc 3 1, 3) := by decide +kernel
theorem dX5_init_190 : decode cX5_init 190 = .ok (.goto (-21), 3) := by decide +kernel
theorem dX5_init_193 : decode cX5_init 193 = .ok (.return_, 1) := by decide +kernel
set_option maxRecDepth 20000 in
theorem ggX5_count_X0_lying : GoodIn wsX5_count wsX0_lying := goodIn_r _ [8, 9, 21, 22, 23, 24, 25, 26, 27, 28, 29, 30, 31, 32, 33, 34, 35] rfl (by decide +kernel)
set_option maxRecDepth 20000 in
theorem gX5_count_X0_lying : GoodIn wsX5_count (wsV RX5 61 RX0 yX0_lying wsX0_lying) := goodIn_app (goodIn_of _ (by decide +kernel)) ggX5_count_X0_lying
theorem dX5_count_0 : decode cX5_count 0 = .ok (.iload_n 1, 1) := by decide +kernel
theorem dX5_count_1 : decode cX5_count 1 = .ok (.tableswitch 87 0 5 #[39, 47, 55, 63, 68, 79], 39) := by decide +kernel
theorem dX5_count_40 : decode cX5_count 40 = .ok (.aload_n 0, 1) := by decide +kernel
theorem dX5_count_41 : decode cX5_count 41 = .ok (.getfield 44, 3) := by decide +kernel
theorem dX5_count_44 : decode cX5_count 44 = .ok (.getfield 55, 3) := by decide +kernel
theorem dX5_count_47 : decode cX5_count 47 = .ok (.ireturn, 1) := by decide +kernel
theorem dX5_count_48 : decode cX5_count 48 = .ok (.aload_n 0, 1) := by decide +kernel
theorem dX5_count_49 : decode cX5_count 49 = .ok (.getfield 44, 3) := by decide +kernel
theorem dX5_count_52 : decode cX5_count 52 = .ok (.getfield 58, 3) := by decide +kernel
theorem dX5_count_55 : decode cX5_count 55 = .ok (.ireturn, 1) := by decide +kernel
theorem dX5_count_56 : decode cX5_count 56 = .ok (.aload_n 0, 1) := by decide +kernel
theorem dX5_count_57 : decode cX5_count 57 = .ok (.getfield 44, 3) := by decide +kernel
theorem dX5_count_60 : decode cX5_count 60 = .ok (.invokevirtual 61, 3) := by decide +kernel
theorem dX5_count_63 : decode cX5_count 63 = .ok (.ireturn, 1) := by decide +kernel
theorem dX5_count_64 : decode cX5_count 64 = .ok (.aload_n 0, 1) := by decide +kernel
theorem dX5_count_65 : decode cX5_count 65 = .ok (.getfield 37, 3) := by decide +kernel
theorem dX5_count_68 : decode cX5_count 68 = .ok (.ireturn, 1) := by decide +kernel
theorem dX5_count_69 : decode cX5_count 69 = .ok (.aload_n 0, 1) := by decide +kernel
theorem dX5_count_70 : decode cX5_count 70 = .ok (.getfield 44, 3) := by decide +kernel
theorem dX5_count_73 : decode cX5_count 73 = .ok (.getfield 65, 3) := by decide +kernel
theorem dX5_count_76 : decode cX5_count 76 = .ok (.getfield 69, 3) := by decide +kernel
theorem dX5_count_79 : decode cX5_count 79 = .ok (.ireturn, 1) := by decide +kernel
theorem dX5_count_80 : decode cX5_count 80 = .ok (.aload_n 0, 1) := by decide +kernel
theorem dX5_count_81 : decode cX5_count 81 = .ok (.getfield 18, 3) := by decide +kernel
theorem dX5_count_84 : decode cX5_count 84 = .ok (.getfield 72, 3) := by decide +kernel
theorem dX5_count_87 : decode cX5_count 87 = .ok (.ireturn, 1) := by decide +kernel
theorem dX5_count_88 : decode cX5_count 88 = .ok (.bipush (-2), 2) := by decide +kernel
theorem dX5_count_90 : decode cX5_count 90 = .ok (.ireturn, 1) := by decide +kernel
set_option maxRecDepth 20000 in
theorem ggX5_court_X5_isOfCourt : GoodIn wsX5_court wsX5_isOfCourt := goodIn_r _ [5, 6, 7, 4, 8] rfl (by decide +kernel)
set_option maxRecDepth 20000 in
theorem gX5_court_X5_isOfCourt : GoodIn wsX5_court (va_wsS RX5 75 yX5_isOfCourt wsX5_isOfCourt) := goodIn_app (goodIn_of _ (by decide +kernel)) ggX5_court_X5_isOfCourt
set_option maxRecDepth 20000 in
theorem ggX5_court_X5_mostOfCourt : GoodIn wsX5_court wsX5_mostOfCourt := goodIn_r _ [11] rfl (by decide +kernel)
set_option maxRecDepth 20000 in
theorem gX5_court_X5_mostOfCourt : GoodIn wsX5_court (va_wsS RX5 79 yX5_mostOfCourt wsX5_mostOfCourt) := goodIn_app (goodIn_of _ (by decide +kernel)) ggX5_court_X5_mostOfCourt
set_option maxRecDepth 20000 in
theorem ggX5_court_X5_replaced : GoodIn wsX5_court wsX5_replaced := goodIn_r _ [14] rfl (by decide +kernel)
set_option maxRecDepth 20000 in
theorem gX5_court_X5_replaced : GoodIn wsX5_court (va_wsS RX5 90 yX5_replaced wsX5_replaced) := goodIn_app (goodIn_of _ (by decide +kernel)) ggX5_court_X5_replaced
theorem dX5_court_0 : decode cX5_court 0 = .ok (.iload_n 1, 1) := by decide +kernel
theorem dX5_court_1 : decode cX5_court 1 = .ok (.iload_n 2, 1) := by decide +kernel
theorem dX5_court_2 : decode cX5_court 2 = .ok (.invokestatic 75, 3) := by decide +kernel
theorem dX5_court_5 : decode cX5_court 5 = .ok (.ifCond .ne 7, 3) := by decide +kernel
theorem dX5_court_8 : decode cX5_court 8 = .ok (.sipush (-5000), 3) := by decide +kernel
theorem dX5_court_11 : decode cX5_court 11 = .ok (.ireturn, 1) := by decide +kernel
theorem dX5_court_12 : decode cX5_court 12 = .ok (.iload_n 3, 1) := by decide +kernel
theorem dX5_court_13 : decode cX5_court 13 = .ok (.iload_n 1, 1) := by decide +kernel
theorem dX5_court_14 : decode cX5_court 14 = .ok (.ifCond .ne 8, 3) := by decide +kernel
theorem dX5_court_17 : decode cX5_court 17 = .ok (.bipush (-99), 2) := by decide +kernel
theorem dX5_court_19 : decode cX5_court 19 = .ok (.goto 4, 3) := by decide +kernel
theorem dX5_court_22 : decode cX5_court 22 = .ok (.iconst 0, 1) := by decide +kernel
theorem dX5_court_23 : decode cX5_court 23 = .ok (.if_icmp .lt 11, 3) := by decide +kernel
theorem dX5_court_26 : decode cX5_court 26 = .ok (.iload_n 3, 1) := by decide +kernel
theorem dX5_court_27 : decode cX5_court 27 = .ok (.iload_n 1, 1) := by decide +kernel
theorem dX5_court_28 : decode cX5_court 28 = .ok (.invokestatic 79, 3) := by decide +kernel
theorem dX5_court_31 : decode cX5_court 31 = .ok (.if_icmp .le 7, 3) := by decide +kernel
theorem dX5_court_34 : decode cX5_court 34 = .ok (.sipush (-7000), 3) := by decide +kernel
theorem dX5_court_37 : decode cX5_court 37 = .ok (.ireturn, 1) := by decide +kernel
theorem dX5_court_38 : decode cX5_court 38 = .ok (.iload_n 1, 1) := by decide +kernel
theorem dX5_court_39 : decode cX5_court 39 = .ok (.iconst 2, 1) := by decide +kernel
theorem dX5_court_40 : decode cX5_court 40 = .ok (.if_icmp .ge 30, 3) := by decide +kernel
theorem dX5_court_43 : decode cX5_court 43 = .ok (.iload_n 1, 1) := by decide +kernel
theorem dX5_court_44 : decode cX5_court 44 = .ok (.ifCond .ne 13, 3) := by decide +kernel
theorem dX5_court_47 : decode cX5_court 47 = .ok (.aload_n 0, 1) := by decide +kernel
theorem dX5_court_48 : decode cX5_court 48 = .ok (.getfield 44, 3) := by decide +kernel
theorem dX5_court_51 : decode cX5_court 51 = .ok (.getfield 83, 3) := by decide +kernel
theorem dX5_court_54 : decode cX5_court 54 = .ok (.goto 10, 3) := by decide +kernel
theorem dX5_court_57 : decode cX5_court 57 = .ok (.aload_n 0, 1) := by decide +kernel
theorem dX5_court_58 : decode cX5_court 58 = .ok (.getfield 44, 3) := by decide +kernel
theorem dX5_court_61 : decode cX5_court 61 = .ok (.getfield 87, 3) := by decide +kernel
theorem dX5_court_64 : decode cX5_court 64 = .ok (.iload_n 2, 1) := by decide +kernel
theorem dX5_court_65 : decode cX5_court 65 = .ok (.iload_n 3, 1) := by decide +kernel
theorem dX5_court_66 : decode cX5_court 66 = .ok (.invokestatic 90, 3) := by decide +kernel
theorem dX5_court_69 : decode cX5_court 69 = .ok (.ireturn, 1) := by decide +kernel
theorem dX5_court_70 : decode cX5_court 70 = .ok (.iload_n 1, 1) := by decide +kernel
theorem dX5_court_71 : decode cX5_court 71 = .ok (.iconst 2, 1) := by decide +kernel
theorem dX5_court_72 : decode cX5_court 72 = .ok (.if_icmp .ne 13, 3) := by decide +kernel
theorem dX5_court_75 : decode cX5_court 75 = .ok (.aload_n 0, 1) := by decide +kernel
theorem dX5_court_76 : decode cX5_court 76 = .ok (.getfield 44, 3) := by decide +kernel
theorem dX5_court_79 : decode cX5_court 79 = .ok (.getfield 58, 3) := by decide +kernel
theorem dX5_court_82 : decode cX5_court 82 = .ok (.goto 10, 3) := by decide +kernel
theorem dX5_court_85 : decode cX5_court 85 = .ok (.aload_n 0, 1) := by decide +kernel
theorem dX5_court_86 : decode cX5_court 86 = .ok (.getfield 44, 3) := by decide +kernel
theorem dX5_court_89 : decode cX5_court 89 = .ok (.getfield 94, 3) := by decide +kernel
theorem dX5_court_92 : decode cX5_court 92 = .ok (.istore 4, 2) := by decide +kernel
theorem dX5_court_94 : decode cX5_court 94 = .ok (.iload_n 1, 1) := by decide +kernel
theorem dX5_court_95 : decode cX5_court 95 = .ok (.iconst 2, 1) := by decide +kernel
theorem dX5_court_96 : decode cX5_court 96 = .ok (.if_icmp .ne 14, 3) := by decide +kernel
theorem dX5_court_99 : decode cX5_court 99 = .ok (.aload_n 0, 1) := by decide +kernel
theorem dX5_court_100 : decode cX5_court 100 = .ok (.getfield 44, 3) := by decide +kernel
theorem dX5_court_103 : decode cX5_court 103 = .ok (.iload_n 3, 1) := by decide +kernel
theorem dX5_court_104 : decode cX5_court 104 = .ok (.putfield 58, 3) := by decide +kernel
theorem dX5_court_107 : decode cX5_court 107 = .ok (.goto 11, 3) := by decide +kernel
theorem dX5_court_110 : decode cX5_court 110 = .ok (.aload_n 0, 1) := by decide +kernel
theorem dX5_court_111 : decode cX5_court 111 = .ok (.getfield 44, 3) := by decide +kernel
theorem dX5_court_114 : decode cX5_court 114 = .ok (.iload_n 3, 1) := by decide +kernel
theorem dX5_court_115 : decode cX5_court 115 = .ok (.putfield 94, 3) := by decide +kernel
theorem dX5_court_118 : decode cX5_court 118 = .ok (.iload 4, 2) := by decide +kernel
theorem dX5_court_120 : decode cX5_court 120 = .ok (.ireturn, 1) := by decide +kernel
set_option maxRecDepth 20000 in
theorem ggX5_bench_X5_isOfCourt : GoodIn wsX5_bench wsX5_isOfCourt := goodIn_r _ [5, 6, 7, 4, 8] rfl (by decide +kernel)
set_option maxRecDepth 20000 in
theorem gX5_bench_X5_isOfCourt : GoodIn wsX5_bench (va_wsS RX5 75 yX5_isOfCourt wsX5_isOfCourt) := goodIn_app (goodIn_of _ (by decide +kernel)) ggX5_bench_X5_isOfCourt
set_option maxRecDepth 20000 in
theorem ggX5_bench_X0_verdict : GoodIn wsX5_bench wsX0_verdict := goodIn_r _ [13, 14, 15, 16, 17, 12, 18, 19, 31, 32, 33, 34, 35, 36, 37, 38, 39, 40, 41, 42, 43, 44, 45] rfl (by decide +kernel)
set_option maxRecDepth 20000 in
theorem gX5_bench_X0_verdict : GoodIn wsX5_bench (wsV RX5 97 RX0 yX0_verdict wsX0_verdict) := goodIn_app (goodIn_of _ (by decide +kernel)) ggX5_bench_X0_verdict
theorem dX5_bench_0 : decode cX5_bench 0 = .ok (.iload_n 1, 1) := by decide +kernel
theorem dX5_bench_1 : decode cX5_bench 1 = .ok (.tableswitch 110 0 4 #[35, 59, 83, 91, 99], 35) := by decide +kernel
theorem dX5_bench_36 : decode cX5_bench 36 = .ok (.iconst 0, 1) := by decide +kernel
theorem dX5_bench_37 : decode cX5_bench 37 = .ok (.iload_n 2, 1) := by decide +kernel
theorem dX5_bench_38 : decode cX5_bench 38 = .ok (.invokestatic 75, 3) := by decide +kernel
theorem dX5_bench_41 : decode cX5_bench 41 = .ok (.ifCond .eq 15, 3) := by decide +kernel
theorem dX5_bench_44 : decode cX5_bench 44 = .ok (.aload_n 0, 1) := by decide +kernel
theorem dX5_bench_45 : decode cX5_bench 45 = .ok (.getfield 44, 3) := by decide +kernel
theorem dX5_bench_48 : decode cX5_bench 48 = .ok (.getfield 83, 3) := by decide +kernel
theorem dX5_bench_51 : decode cX5_bench 51 = .ok (.iload_n 2, 1) := by decide +kernel
theorem dX5_bench_52 : decode cX5_bench 52 = .ok (.iaload, 1) := by decide +kernel
theorem dX5_bench_53 : decode cX5_bench 53 = .ok (.goto 6, 3) := by decide +kernel
theorem dX5_bench_56 : decode cX5_bench 56 = .ok (.sipush (-5000), 3) := by decide +kernel
theorem dX5_bench_59 : decode cX5_bench 59 = .ok (.ireturn, 1) := by decide +kernel
theorem dX5_bench_60 : decode cX5_bench 60 = .ok (.iconst 1, 1) := by decide +kernel
theorem dX5_bench_61 : decode cX5_bench 61 = .ok (.iload_n 2, 1) := by decide +kernel
theorem dX5_bench_62 : decode cX5_bench 62 = .ok (.invokestatic 75, 3) := by decide +kernel
theorem dX5_bench_65 : decode cX5_bench 65 = .ok (.ifCond .eq 15, 3) := by decide +kernel
theorem dX5_bench_68 : decode cX5_bench 68 = .ok (.aload_n 0, 1) := by decide +kernel
theorem dX5_bench_69 : decode cX5_bench 69 = .ok (.getfield 44, 3) := by decide +kernel
theorem dX5_bench_72 : decode cX5_bench 72 = .ok (.getfield 87, 3) := by decide +kernel
theorem dX5_bench_75 : decode cX5_bench 75 = .ok (.iload_n 2, 1) := by decide +kernel
theorem dX5_bench_76 : decode cX5_bench 76 = .ok (.iaload, 1) := by decide +kernel
theorem dX5_bench_77 : decode cX5_bench 77 = .ok (.goto 6, 3) := by decide +kernel
theorem dX5_bench_80 : decode cX5_bench 80 = .ok (.sipush (-5000), 3) := by decide +kernel
theorem dX5_bench_83 : decode cX5_bench 83 = .ok (.ireturn, 1) := by decide +kernel
theorem dX5_bench_84 : decode cX5_bench 84 = .ok (.aload_n 0, 1) := by decide +kernel
theorem dX5_bench_85 : decode cX5_bench 85 = .ok (.getfield 44, 3) := by decide +kernel
theorem dX5_bench_88 : decode cX5_bench 88 = .ok (.getfield 94, 3) := by decide +kernel
theorem dX5_bench_91 : decode cX5_bench 91 = .ok (.ireturn, 1) := by decide +kernel
theorem dX5_bench_92 : decode cX5_bench 92 = .ok (.aload_n 0, 1) := by decide +kernel
theorem dX5_bench_93 : decode cX5_bench 93 = .ok (.getfield 44, 3) := by decide +kernel
theorem dX5_bench_96 : decode cX5_bench 96 = .ok (.invokevirtual 97, 3) := by decide +kernel
theorem dX5_bench_99 : decode cX5_bench 99 = .ok (.ireturn, 1) := by decide +kernel
theorem dX5_bench_100 : decode cX5_bench 100 = .ok (.aload_n 0, 1) := by decide +kernel
theorem dX5_bench_101 : decode cX5_bench 101 = .ok (.getfield 44, 3) := by decide +kernel
theorem dX5_bench_104 : decode cX5_bench 104 = .ok (.getfield 58, 3) := by decide +kernel
theorem dX5_bench_107 : decode cX5_bench 107 = .ok (.bipush 6, 2) := by decide +kernel
theorem dX5_bench_109 : decode cX5_bench 109 = .ok (.irem, 1) := by decide +kernel
theorem dX5_bench_110 : decode cX5_bench 110 = .ok (.ireturn, 1) := by decide +kernel
theorem dX5_bench_111 : decode cX5_bench 111 = .ok (.sipush (-5000), 3) := by decide +kernel
theorem dX5_bench_114 : decode cX5_bench 114 = .ok (.ireturn, 1) := by decide +kernel
set_option maxRecDepth 20000 in
theorem ggX5_isOfCourt_X5_isBelow : GoodIn wsX5_isOfCourt wsX5_isBelow := goodIn_r _ [4] rfl (by decide +kernel)
set_option maxRecDepth 20000 in
theorem gX5_isOfCourt_X5_isBelow : GoodIn wsX5_isOfCourt (va_wsS RX5 100 yX5_isBelow wsX5_isBelow) := goodIn_app (goodIn_of _ (by decide +kernel)) ggX5_isOfCourt_X5_isBelow
theorem dX5_isOfCourt_0 : decode cX5_isOfCourt 0 = .ok (.iload_n 0, 1) := by decide +kernel
theorem dX5_isOfCourt_1 : decode cX5_isOfCourt 1 = .ok (.lookupswitch 41 #[(0, 27), (1, 34)], 27) := by decide +kernel
theorem dX5_isOfCourt_28 : decode cX5_isOfCourt 28 = .ok (.iload_n 1, 1) := by decide +kernel
theorem dX5_isOfCourt_29 : decode cX5_isOfCourt 29 = .ok (.bipush 10, 2) := by decide +kernel
theorem dX5_isOfCourt_31 : decode cX5_isOfCourt 31 = .ok (.invokestatic 100, 3) := by decide +kernel
theorem dX5_isOfCourt_34 : decode cX5_isOfCourt 34 = .ok (.ireturn, 1) := by decide +kernel
theorem dX5_isOfCourt_35 : decode cX5_isOfCourt 35 = .ok (.iload_n 1, 1) := by decide +kernel
theorem dX5_isOfCourt_36 : decode cX5_isOfCourt 36 = .ok (.bipush 6, 2) := by decide +kernel
theorem dX5_isOfCourt_38 : decode cX5_isOfCourt 38 = .ok (.invokestatic 100, 3) := by decide +kernel
theorem dX5_isOfCourt_41 : decode cX5_isOfCourt 41 = .ok (.ireturn, 1) := by decide +kernel
theorem dX5_isOfCourt_42 : decode cX5_isOfCourt 42 = .ok (.iload_n 0, 1) := by decide +kernel
theorem dX5_isOfCourt_43 : decode cX5_isOfCourt 43 = .ok (.iconst 2, 1) := by decide +kernel
theorem dX5_isOfCourt_44 : decode cX5_isOfCourt 44 = .ok (.if_icmp .eq 8, 3) := by decide +kernel
theorem dX5_isOfCourt_47 : decode cX5_isOfCourt 47 = .ok (.iload_n 0, 1) := by decide +kernel
theorem dX5_isOfCourt_48 : decode cX5_isOfCourt 48 = .ok (.iconst 3, 1) := by decide +kernel
theorem dX5_isOfCourt_49 : decode cX5_isOfCourt 49 = .ok (.if_icmp .ne 7, 3) := by decide +kernel
theorem dX5_isOfCourt_52 : decode cX5_isOfCourt 52 = .ok (.iconst 1, 1) := by decide +kernel
theorem dX5_isOfCourt_53 : decode cX5_isOfCourt 53 = .ok (.goto 4, 3) := by decide +kernel
theorem dX5_isOfCourt_56 : decode cX5_isOfCourt 56 = .ok (.iconst 0, 1) := by decide +kernel
theorem dX5_isOfCourt_57 : decode cX5_isOfCourt 57 = .ok (.ireturn, 1) := by decide +kernel
theorem dX5_mostOfCourt_0 : decode cX5_mostOfCourt 0 = .ok (.iload_n 0, 1) := by decide +kernel
theorem dX5_mostOfCourt_1 : decode cX5_mostOfCourt 1 = .ok (.lookupswitch 35 #[(2, 27), (3, 31)], 27) := by decide +kernel
theorem dX5_mostOfCourt_28 : decode cX5_mostOfCourt 28 = .ok (.sipush 999, 3) := by decide +kernel
theorem dX5_mostOfCourt_31 : decode cX5_mostOfCourt 31 = .ok (.ireturn, 1) := by decide +kernel
theorem dX5_mostOfCourt_32 : decode cX5_mostOfCourt 32 = .ok (.sipush 1023, 3) := by decide +kernel
theorem dX5_mostOfCourt_35 : decode cX5_mostOfCourt 35 = .ok (.ireturn, 1) := by decide +kernel
theorem dX5_mostOfCourt_36 : decode cX5_mostOfCourt 36 = .ok (.bipush 99, 2) := by decide +kernel
theorem dX5_mostOfCourt_38 : decode cX5_mostOfCourt 38 = .ok (.ireturn, 1) := by decide +kernel
set_option maxRecDepth 20000 in
theorem ggX5_feed_X5_isByte : GoodIn wsX5_feed wsX5_isByte := goodIn_r _ [5, 6, 7, 4, 8] rfl (by decide +kernel)
set_option maxRecDepth 20000 in
theorem gX5_feed_X5_isByte : GoodIn wsX5_feed (va_wsS RX5 103 yX5_isByte wsX5_isByte) := goodIn_app (goodIn_of _ (by decide +kernel)) ggX5_feed_X5_isByte
set_option maxRecDepth 20000 in
theorem ggX5_feed_X4_append : GoodIn wsX5_feed wsX4_append := goodIn_r _ [13, 14, 15, 27, 28, 29, 30, 31, 32, 33, 34, 35] rfl (by decide +kernel)
set_option maxRecDepth 20000 in
theorem gX5_feed_X4_append : GoodIn wsX5_feed (wsV RX5 107 RX4 yX4_append wsX4_append) := goodIn_app (goodIn_of _ (by decide +kernel)) ggX5_feed_X4_append
theorem dX5_feed_0 : decode cX5_feed 0 = .ok (.iload_n 1, 1) := by decide +kernel
theorem dX5_feed_1 : decode cX5_feed 1 = .ok (.iconst 1, 1) := by decide +kernel
theorem dX5_feed_2 : decode cX5_feed 2 = .ok (.if_icmp .lt 46, 3) := by decide +kernel
theorem dX5_feed_5 : decode cX5_feed 5 = .ok (.iload_n 1, 1) := by decide +kernel
theorem dX5_feed_6 : decode cX5_feed 6 = .ok (.iconst 5, 1) := by decide +kernel

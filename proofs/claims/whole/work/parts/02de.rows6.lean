theorem dX6_says_6 : decode cX6_says 6 = .ok (.iconst 4, 1) := by decide +kernel
theorem dX6_says_7 : decode cX6_says 7 = .ok (.aload_n 0, 1) := by decide +kernel
theorem dX6_says_8 : decode cX6_says 8 = .ok (.getfield 102, 3) := by decide +kernel
theorem dX6_says_11 : decode cX6_says 11 = .ok (.imul, 1) := by decide +kernel
theorem dX6_says_12 : decode cX6_says 12 = .ok (.iload_n 1, 1) := by decide +kernel
theorem dX6_says_13 : decode cX6_says 13 = .ok (.iadd, 1) := by decide +kernel
theorem dX6_says_14 : decode cX6_says 14 = .ok (.iaload, 1) := by decide +kernel
theorem dX6_says_15 : decode cX6_says 15 = .ok (.istore_n 3, 1) := by decide +kernel
theorem dX6_says_16 : decode cX6_says 16 = .ok (.iload_n 3, 1) := by decide +kernel
theorem dX6_says_17 : decode cX6_says 17 = .ok (.aload_n 0, 1) := by decide +kernel
theorem dX6_says_18 : decode cX6_says 18 = .ok (.getfield 34, 3) := by decide +kernel
theorem dX6_says_21 : decode cX6_says 21 = .ok (.iconst 4, 1) := by decide +kernel
theorem dX6_says_22 : decode cX6_says 22 = .ok (.aload_n 0, 1) := by decide +kernel
theorem dX6_says_23 : decode cX6_says 23 = .ok (.getfield 102, 3) := by decide +kernel
theorem dX6_says_26 : decode cX6_says 26 = .ok (.imul, 1) := by decide +kernel
theorem dX6_says_27 : decode cX6_says 27 = .ok (.iload_n 1, 1) := by decide +kernel
theorem dX6_says_28 : decode cX6_says 28 = .ok (.iadd, 1) := by decide +kernel
theorem dX6_says_29 : decode cX6_says 29 = .ok (.iconst 1, 1) := by decide +kernel
theorem dX6_says_30 : decode cX6_says 30 = .ok (.iadd, 1) := by decide +kernel
theorem dX6_says_31 : decode cX6_says 31 = .ok (.iaload, 1) := by decide +kernel
theorem dX6_says_32 : decode cX6_says 32 = .ok (.if_icmp .ge 165, 3) := by decide +kernel
theorem dX6_says_35 : decode cX6_says 35 = .ok (.aload_n 0, 1) := by decide +kernel
theorem dX6_says_36 : decode cX6_says 36 = .ok (.getfield 31, 3) := by decide +kernel
theorem dX6_says_39 : decode cX6_says 39 = .ok (.sipush 200, 3) := by decide +kernel
theorem dX6_says_42 : decode cX6_says 42 = .ok (.aload_n 0, 1) := by decide +kernel
theorem dX6_says_43 : decode cX6_says 43 = .ok (.getfield 102, 3) := by decide +kernel
theorem dX6_says_46 : decode cX6_says 46 = .ok (.imul, 1) := by decide +kernel
theorem dX6_says_47 : decode cX6_says 47 = .ok (.iload_n 3, 1) := by decide +kernel
theorem dX6_says_48 : decode cX6_says 48 = .ok (.iadd, 1) := by decide +kernel
theorem dX6_says_49 : decode cX6_says 49 = .ok (.iaload, 1) := by decide +kernel
theorem dX6_says_50 : decode cX6_says 50 = .ok (.istore 4, 2) := by decide +kernel
theorem dX6_says_52 : decode cX6_says 52 = .ok (.iload 4, 2) := by decide +kernel
theorem dX6_says_54 : decode cX6_says 54 = .ok (.ldc 160, 2) := by decide +kernel
theorem dX6_says_56 : decode cX6_says 56 = .ok (.if_icmp .ge 10, 3) := by decide +kernel
theorem dX6_says_59 : decode cX6_says 59 = .ok (.iload 4, 2) := by decide +kernel
theorem dX6_says_61 : decode cX6_says 61 = .ok (.bipush 11, 2) := by decide +kernel
theorem dX6_says_63 : decode cX6_says 63 = .ok (.if_icmp .ge 37, 3) := by decide +kernel
theorem dX6_says_66 : decode cX6_says 66 = .ok (.aload_n 0, 1) := by decide +kernel
theorem dX6_says_67 : decode cX6_says 67 = .ok (.getfield 61, 3) := by decide +kernel
theorem dX6_says_70 : decode cX6_says 70 = .ok (.iload_n 2, 1) := by decide +kernel
theorem dX6_says_71 : decode cX6_says 71 = .ok (.iload 4, 2) := by decide +kernel
theorem dX6_says_73 : decode cX6_says 73 = .ok (.bipush 11, 2) := by decide +kernel
theorem dX6_says_75 : decode cX6_says 75 = .ok (.if_icmp .ge 13, 3) := by decide +kernel
theorem dX6_says_78 : decode cX6_says 78 = .ok (.aload_n 0, 1) := by decide +kernel
theorem dX6_says_79 : decode cX6_says 79 = .ok (.getfield 64, 3) := by decide +kernel
theorem dX6_says_82 : decode cX6_says 82 = .ok (.iload 4, 2) := by decide +kernel
theorem dX6_says_84 : decode cX6_says 84 = .ok (.iaload, 1) := by decide +kernel
theorem dX6_says_85 : decode cX6_says 85 = .ok (.goto 8, 3) := by decide +kernel
theorem dX6_says_88 : decode cX6_says 88 = .ok (.iload 4, 2) := by decide +kernel
theorem dX6_says_90 : decode cX6_says 90 = .ok (.ldc 160, 2) := by decide +kernel
theorem dX6_says_92 : decode cX6_says 92 = .ok (.isub, 1) := by decide +kernel
theorem dX6_says_93 : decode cX6_says 93 = .ok (.iastore, 1) := by decide +kernel
theorem dX6_says_94 : decode cX6_says 94 = .ok (.iinc 2 1, 3) := by decide +kernel
theorem dX6_says_97 : decode cX6_says 97 = .ok (.goto 94, 3) := by decide +kernel
theorem dX6_says_100 : decode cX6_says 100 = .ok (.iload 4, 2) := by decide +kernel
theorem dX6_says_102 : decode cX6_says 102 = .ok (.bipush 13, 2) := by decide +kernel
theorem dX6_says_104 : decode cX6_says 104 = .ok (.if_icmp .ne 30, 3) := by decide +kernel
theorem dX6_says_107 : decode cX6_says 107 = .ok (.aload_n 0, 1) := by decide +kernel
theorem dX6_says_108 : decode cX6_says 108 = .ok (.getfield 61, 3) := by decide +kernel
theorem dX6_says_111 : decode cX6_says 111 = .ok (.iload_n 2, 1) := by decide +kernel
theorem dX6_says_112 : decode cX6_says 112 = .ok (.iconst 1, 1) := by decide +kernel
theorem dX6_says_113 : decode cX6_says 113 = .ok (.isub, 1) := by decide +kernel
theorem dX6_says_114 : decode cX6_says 114 = .ok (.aload_n 0, 1) := by decide +kernel
theorem dX6_says_115 : decode cX6_says 115 = .ok (.getfield 61, 3) := by decide +kernel
theorem dX6_says_118 : decode cX6_says 118 = .ok (.iload_n 2, 1) := by decide +kernel
theorem dX6_says_119 : decode cX6_says 119 = .ok (.iconst 1, 1) := by decide +kernel
theorem dX6_says_120 : decode cX6_says 120 = .ok (.isub, 1) := by decide +kernel
theorem dX6_says_121 : decode cX6_says 121 = .ok (.iaload, 1) := by decide +kernel
theorem dX6_says_122 : decode cX6_says 122 = .ok (.ifCond .ne 7, 3) := by decide +kernel
theorem dX6_says_125 : decode cX6_says 125 = .ok (.iconst 1, 1) := by decide +kernel
theorem dX6_says_126 : decode cX6_says 126 = .ok (.goto 4, 3) := by decide +kernel
theorem dX6_says_129 : decode cX6_says 129 = .ok (.iconst 0, 1) := by decide +kernel
theorem dX6_says_130 : decode cX6_says 130 = .ok (.iastore, 1) := by decide +kernel
theorem dX6_says_131 : decode cX6_says 131 = .ok (.goto 60, 3) := by decide +kernel
theorem dX6_says_134 : decode cX6_says 134 = .ok (.iload 4, 2) := by decide +kernel
theorem dX6_says_136 : decode cX6_says 136 = .ok (.bipush 19, 2) := by decide +kernel
theorem dX6_says_138 : decode cX6_says 138 = .ok (.if_icmp .ne 23, 3) := by decide +kernel
theorem dX6_says_141 : decode cX6_says 141 = .ok (.aload_n 0, 1) := by decide +kernel
theorem dX6_says_142 : decode cX6_says 142 = .ok (.getfield 61, 3) := by decide +kernel
theorem dX6_says_145 : decode cX6_says 145 = .ok (.iload_n 2, 1) := by decide +kernel
theorem dX6_says_146 : decode cX6_says 146 = .ok (.iconst 1, 1) := by decide +kernel
theorem dX6_says_147 : decode cX6_says 147 = .ok (.isub, 1) := by decide +kernel
theorem dX6_says_148 : decode cX6_says 148 = .ok (.aload_n 0, 1) := by decide +kernel
theorem dX6_says_149 : decode cX6_says 149 = .ok (.getfield 61, 3) := by decide +kernel
theorem dX6_says_152 : decode cX6_says 152 = .ok (.iload_n 2, 1) := by decide +kernel
theorem dX6_says_153 : decode cX6_says 153 = .ok (.iconst 1, 1) := by decide +kernel
theorem dX6_says_154 : decode cX6_says 154 = .ok (.isub, 1) := by decide +kernel
theorem dX6_says_155 : decode cX6_says 155 = .ok (.iaload, 1) := by decide +kernel
theorem dX6_says_156 : decode cX6_says 156 = .ok (.ineg, 1) := by decide +kernel
theorem dX6_says_157 : decode cX6_says 157 = .ok (.iastore, 1) := by decide +kernel
theorem dX6_says_158 : decode cX6_says 158 = .ok (.goto 33, 3) := by decide +kernel
theorem dX6_says_161 : decode cX6_says 161 = .ok (.iinc 2 (-1), 3) := by decide +kernel
theorem dX6_says_164 : decode cX6_says 164 = .ok (.aload_n 0, 1) := by decide +kernel
theorem dX6_says_165 : decode cX6_says 165 = .ok (.getfield 61, 3) := by decide +kernel
theorem dX6_says_168 : decode cX6_says 168 = .ok (.iload_n 2, 1) := by decide +kernel
theorem dX6_says_169 : decode cX6_says 169 = .ok (.iconst 1, 1) := by decide +kernel
theorem dX6_says_170 : decode cX6_says 170 = .ok (.isub, 1) := by decide +kernel
theorem dX6_says_171 : decode cX6_says 171 = .ok (.iload 4, 2) := by decide +kernel
theorem dX6_says_173 : decode cX6_says 173 = .ok (.aload_n 0, 1) := by decide +kernel
theorem dX6_says_174 : decode cX6_says 174 = .ok (.getfield 61, 3) := by decide +kernel
theorem dX6_says_177 : decode cX6_says 177 = .ok (.iload_n 2, 1) := by decide +kernel
theorem dX6_says_178 : decode cX6_says 178 = .ok (.iconst 1, 1) := by decide +kernel
theorem dX6_says_179 : decode cX6_says 179 = .ok (.isub, 1) := by decide +kernel
theorem dX6_says_180 : decode cX6_says 180 = .ok (.iaload, 1) := by decide +kernel
theorem dX6_says_181 : decode cX6_says 181 = .ok (.aload_n 0, 1) := by decide +kernel
theorem dX6_says_182 : decode cX6_says 182 = .ok (.getfield 61, 3) := by decide +kernel
theorem dX6_says_185 : decode cX6_says 185 = .ok (.iload_n 2, 1) := by decide +kernel
theorem dX6_says_186 : decode cX6_says 186 = .ok (.iaload, 1) := by decide +kernel
theorem dX6_says_187 : decode cX6_says 187 = .ok (.invokestatic 174, 3) := by decide +kernel
theorem dX6_says_190 : decode cX6_says 190 = .ok (.iastore, 1) := by decide +kernel
theorem dX6_says_191 : decode cX6_says 191 = .ok (.iinc 3 1, 3) := by decide +kernel
theorem dX6_says_194 : decode cX6_says 194 = .ok (.goto (-178), 3) := by decide +kernel
theorem dX6_says_197 : decode cX6_says 197 = .ok (.aload_n 0, 1) := by decide +kernel
theorem dX6_says_198 : decode cX6_says 198 = .ok (.getfield 61, 3) := by decide +kernel
theorem dX6_says_201 : decode cX6_says 201 = .ok (.iconst 0, 1) := by decide +kernel
theorem dX6_says_202 : decode cX6_says 202 = .ok (.iaload, 1) := by decide +kernel
theorem dX6_says_203 : decode cX6_says 203 = .ok (.ireturn, 1) := by decide +kernel
set_option maxRecDepth 20000 in
theorem ggX6_force_X6_in : GoodIn wsX6_force wsX6_in := goodIn_r _ [6] rfl (by decide +kernel)
set_option maxRecDepth 20000 in
theorem gX6_force_X6_in : GoodIn wsX6_force (va_wsS RX6 81 yX6_in wsX6_in) := goodIn_app (goodIn_of _ (by decide +kernel)) ggX6_force_X6_in
theorem dX6_force_0 : decode cX6_force 0 = .ok (.iload_n 1, 1) := by decide +kernel
theorem dX6_force_1 : decode cX6_force 1 = .ok (.iconst 0, 1) := by decide +kernel
theorem dX6_force_2 : decode cX6_force 2 = .ok (.aload_n 0, 1) := by decide +kernel
theorem dX6_force_3 : decode cX6_force 3 = .ok (.getfield 99, 3) := by decide +kernel
theorem dX6_force_6 : decode cX6_force 6 = .ok (.iconst 1, 1) := by decide +kernel
theorem dX6_force_7 : decode cX6_force 7 = .ok (.isub, 1) := by decide +kernel
theorem dX6_force_8 : decode cX6_force 8 = .ok (.invokestatic 81, 3) := by decide +kernel
theorem dX6_force_11 : decode cX6_force 11 = .ok (.ifCond .ne 6, 3) := by decide +kernel
theorem dX6_force_14 : decode cX6_force 14 = .ok (.bipush (-2), 2) := by decide +kernel
theorem dX6_force_16 : decode cX6_force 16 = .ok (.ireturn, 1) := by decide +kernel
theorem dX6_force_17 : decode cX6_force 17 = .ok (.aload_n 0, 1) := by decide +kernel
theorem dX6_force_18 : decode cX6_force 18 = .ok (.getfield 102, 3) := by decide +kernel
theorem dX6_force_21 : decode cX6_force 21 = .ok (.istore_n 2, 1) := by decide +kernel
theorem dX6_force_22 : decode cX6_force 22 = .ok (.aload_n 0, 1) := by decide +kernel
theorem dX6_force_23 : decode cX6_force 23 = .ok (.iload_n 1, 1) := by decide +kernel
theorem dX6_force_24 : decode cX6_force 24 = .ok (.putfield 102, 3) := by decide +kernel
theorem dX6_force_27 : decode cX6_force 27 = .ok (.iload_n 2, 1) := by decide +kernel
theorem dX6_force_28 : decode cX6_force 28 = .ok (.ireturn, 1) := by decide +kernel
set_option maxRecDepth 20000 in
theorem ggX6_asksOf_X6_onesOf : GoodIn wsX6_asksOf wsX6_onesOf := goodIn_r _ [9] rfl (by decide +kernel)
set_option maxRecDepth 20000 in
theorem gX6_asksOf_X6_onesOf : GoodIn wsX6_asksOf (va_wsS RX6 177 yX6_onesOf wsX6_onesOf) := goodIn_app (goodIn_of _ (by decide +kernel)) ggX6_asksOf_X6_onesOf
set_option maxRecDepth 20000 in
theorem ggX6_asksOf_X6_lying : GoodIn wsX6_asksOf wsX6_lying := goodIn_r _ [13, 14, 15, 16, 8, 17, 18, 19, 20, 21, 22, 23, 24, 37, 38, 39, 40, 41, 42, 43, 44, 45, 46, 47, 48, 49, 50, 51, 52, 53, 54, 55, 56, 57, 58, 59, 60, 61, 62, 63, 64, 65, 66, 67, 68, 69, 70, 71, 72, 73, 74] rfl (by decide +kernel)
set_option maxRecDepth 20000 in
theorem gX6_asksOf_X6_lying : GoodIn wsX6_asksOf (wsV RX6 96 RX6 yX6_lying wsX6_lying) := goodIn_app (goodIn_of _ (by decide +kernel)) ggX6_asksOf_X6_lying
set_option maxRecDepth 20000 in
theorem ggX6_asksOf_X6_says : GoodIn wsX6_asksOf wsX6_says := goodIn_r _ [28, 29, 30, 31, 32, 33, 1, 34, 35, 8, 36, 37, 38, 39, 40, 41, 42, 43, 44, 45, 46, 47, 48, 49, 50, 51, 52, 53, 54, 55, 56, 57, 58, 59, 60, 61, 62, 63, 64, 65, 66, 67, 68, 69, 70, 71, 72, 73, 74] rfl (by decide +kernel)
set_option maxRecDepth 20000 in
theorem gX6_asksOf_X6_says : GoodIn wsX6_asksOf (wsV RX6 180 RX6 yX6_says wsX6_says) := goodIn_app (goodIn_of _ (by decide +kernel)) ggX6_asksOf_X6_says
set_option maxRecDepth 20000 in
theorem ggX6_asksOf_X6_within : GoodIn wsX6_asksOf wsX6_within := goodIn_r _ [24] rfl (by decide +kernel)
set_option maxRecDepth 20000 in
theorem gX6_asksOf_X6_within : GoodIn wsX6_asksOf (va_wsS RX6 85 yX6_within wsX6_within) := goodIn_app (goodIn_of _ (by decide +kernel)) ggX6_asksOf_X6_within
theorem dX6_asksOf_0 : decode cX6_asksOf 0 = .ok (.aload_n 0, 1) := by decide +kernel
theorem dX6_asksOf_1 : decode cX6_asksOf 1 = .ok (.getfield 64, 3) := by decide +kernel
theorem dX6_asksOf_4 : decode cX6_asksOf 4 = .ok (.iconst 0, 1) := by decide +kernel
theorem dX6_asksOf_5 : decode cX6_asksOf 5 = .ok (.aload_n 0, 1) := by decide +kernel
theorem dX6_asksOf_6 : decode cX6_asksOf 6 = .ok (.getfield 16, 3) := by decide +kernel
theorem dX6_asksOf_9 : decode cX6_asksOf 9 = .ok (.iconst 3, 1) := by decide +kernel
theorem dX6_asksOf_10 : decode cX6_asksOf 10 = .ok (.iload_n 2, 1) := by decide +kernel
theorem dX6_asksOf_11 : decode cX6_asksOf 11 = .ok (.imul, 1) := by decide +kernel
theorem dX6_asksOf_12 : decode cX6_asksOf 12 = .ok (.iconst 1, 1) := by decide +kernel
theorem dX6_asksOf_13 : decode cX6_asksOf 13 = .ok (.iadd, 1) := by decide +kernel
theorem dX6_asksOf_14 : decode cX6_asksOf 14 = .ok (.iaload, 1) := by decide +kernel
theorem dX6_asksOf_15 : decode cX6_asksOf 15 = .ok (.iastore, 1) := by decide +kernel
theorem dX6_asksOf_16 : decode cX6_asksOf 16 = .ok (.aload_n 0, 1) := by decide +kernel
theorem dX6_asksOf_17 : decode cX6_asksOf 17 = .ok (.getfield 64, 3) := by decide +kernel
theorem dX6_asksOf_20 : decode cX6_asksOf 20 = .ok (.iconst 1, 1) := by decide +kernel
theorem dX6_asksOf_21 : decode cX6_asksOf 21 = .ok (.aload_n 0, 1) := by decide +kernel
theorem dX6_asksOf_22 : decode cX6_asksOf 22 = .ok (.getfield 16, 3) := by decide +kernel
theorem dX6_asksOf_25 : decode cX6_asksOf 25 = .ok (.iconst 3, 1) := by decide +kernel
theorem dX6_asksOf_26 : decode cX6_asksOf 26 = .ok (.iload_n 2, 1) := by decide +kernel
theorem dX6_asksOf_27 : decode cX6_asksOf 27 = .ok (.imul, 1) := by decide +kernel
theorem dX6_asksOf_28 : decode cX6_asksOf 28 = .ok (.iaload, 1) := by decide +kernel
theorem dX6_asksOf_29 : decode cX6_asksOf 29 = .ok (.invokestatic 177, 3) := by decide +kernel
theorem dX6_asksOf_32 : decode cX6_asksOf 32 = .ok (.iastore, 1) := by decide +kernel
theorem dX6_asksOf_33 : decode cX6_asksOf 33 = .ok (.aload_n 0, 1) := by decide +kernel
theorem dX6_asksOf_34 : decode cX6_asksOf 34 = .ok (.getfield 64, 3) := by decide +kernel
theorem dX6_asksOf_37 : decode cX6_asksOf 37 = .ok (.iconst 2, 1) := by decide +kernel
theorem dX6_asksOf_38 : decode cX6_asksOf 38 = .ok (.aload_n 0, 1) := by decide +kernel
theorem dX6_asksOf_39 : decode cX6_asksOf 39 = .ok (.getfield 93, 3) := by decide +kernel
theorem dX6_asksOf_42 : decode cX6_asksOf 42 = .ok (.iastore, 1) := by decide +kernel
theorem dX6_asksOf_43 : decode cX6_asksOf 43 = .ok (.aload_n 0, 1) := by decide +kernel
theorem dX6_asksOf_44 : decode cX6_asksOf 44 = .ok (.getfield 64, 3) := by decide +kernel
theorem dX6_asksOf_47 : decode cX6_asksOf 47 = .ok (.iconst 3, 1) := by decide +kernel
theorem dX6_asksOf_48 : decode cX6_asksOf 48 = .ok (.aload_n 0, 1) := by decide +kernel
theorem dX6_asksOf_49 : decode cX6_asksOf 49 = .ok (.invokevirtual 96, 3) := by decide +kernel
theorem dX6_asksOf_52 : decode cX6_asksOf 52 = .ok (.iastore, 1) := by decide +kernel
theorem dX6_asksOf_53 : decode cX6_asksOf 53 = .ok (.aload_n 0, 1) := by decide +kernel
theorem dX6_asksOf_54 : decode cX6_asksOf 54 = .ok (.getfield 64, 3) := by decide +kernel
theorem dX6_asksOf_57 : decode cX6_asksOf 57 = .ok (.iconst 4, 1) := by decide +kernel
theorem dX6_asksOf_58 : decode cX6_asksOf 58 = .ok (.aload_n 0, 1) := by decide +kernel
theorem dX6_asksOf_59 : decode cX6_asksOf 59 = .ok (.getfield 109, 3) := by decide +kernel
theorem dX6_asksOf_62 : decode cX6_asksOf 62 = .ok (.invokestatic 177, 3) := by decide +kernel
theorem dX6_asksOf_65 : decode cX6_asksOf 65 = .ok (.iastore, 1) := by decide +kernel
theorem dX6_asksOf_66 : decode cX6_asksOf 66 = .ok (.aload_n 0, 1) := by decide +kernel
theorem dX6_asksOf_67 : decode cX6_asksOf 67 = .ok (.getfield 64, 3) := by decide +kernel
theorem dX6_asksOf_70 : decode cX6_asksOf 70 = .ok (.iconst 5, 1) := by decide +kernel
theorem dX6_asksOf_71 : decode cX6_asksOf 71 = .ok (.aload_n 0, 1) := by decide +kernel
theorem dX6_asksOf_72 : decode cX6_asksOf 72 = .ok (.getfield 13, 3) := by decide +kernel
theorem dX6_asksOf_75 : decode cX6_asksOf 75 = .ok (.iload_n 2, 1) := by decide +kernel
theorem dX6_asksOf_76 : decode cX6_asksOf 76 = .ok (.iaload, 1) := by decide +kernel
theorem dX6_asksOf_77 : decode cX6_asksOf 77 = .ok (.iastore, 1) := by decide +kernel
theorem dX6_asksOf_78 : decode cX6_asksOf 78 = .ok (.aload_n 0, 1) := by decide +kernel
theorem dX6_asksOf_79 : decode cX6_asksOf 79 = .ok (.iload_n 1, 1) := by decide +kernel
theorem dX6_asksOf_80 : decode cX6_asksOf 80 = .ok (.invokevirtual 180, 3) := by decide +kernel
theorem dX6_asksOf_83 : decode cX6_asksOf 83 = .ok (.iload_n 1, 1) := by decide +kernel
theorem dX6_asksOf_84 : decode cX6_asksOf 84 = .ok (.iconst 2, 1) := by decide +kernel
theorem dX6_asksOf_85 : decode cX6_asksOf 85 = .ok (.if_icmp .ne 8, 3) := by decide +kernel
theorem dX6_asksOf_88 : decode cX6_asksOf 88 = .ok (.bipush (-99), 2) := by decide +kernel
theorem dX6_asksOf_90 : decode cX6_asksOf 90 = .ok (.goto 4, 3) := by decide +kernel
theorem dX6_asksOf_93 : decode cX6_asksOf 93 = .ok (.iconst 0, 1) := by decide +kernel
theorem dX6_asksOf_94 : decode cX6_asksOf 94 = .ok (.bipush 99, 2) := by decide +kernel
theorem dX6_asksOf_96 : decode cX6_asksOf 96 = .ok (.invokestatic 85, 3) := by decide +kernel
theorem dX6_asksOf_99 : decode cX6_asksOf 99 = .ok (.ireturn, 1) := by decide +kernel
set_option maxRecDepth 20000 in
theorem ggX6_asks_X6_in : GoodIn wsX6_asks wsX6_in := goodIn_r _ [4] rfl (by decide +kernel)
set_option maxRecDepth 20000 in
theorem gX6_asks_X6_in : GoodIn wsX6_asks (va_wsS RX6 81 yX6_in wsX6_in) := goodIn_app (goodIn_of _ (by decide +kernel)) ggX6_asks_X6_in
set_option maxRecDepth 20000 in
theorem ggX6_asks_X6_isOne : GoodIn wsX6_asks wsX6_isOne := goodIn_r _ [8, 9, 1, 2, 3, 4, 46, 47, 48, 49, 50, 51, 52, 53, 54, 55, 56, 57, 58, 59, 60, 61, 62, 63, 64, 65, 66, 67, 68, 69, 70, 71, 72, 73, 74, 75, 76, 77, 78, 79, 80, 81, 82, 83] rfl (by decide +kernel)
set_option maxRecDepth 20000 in
theorem gX6_asks_X6_isOne : GoodIn wsX6_asks (wsV RX6 183 RX6 yX6_isOne wsX6_isOne) := goodIn_app (goodIn_of _ (by decide +kernel)) ggX6_asks_X6_isOne
set_option maxRecDepth 20000 in
theorem ggX6_asks_X6_asksOf : GoodIn wsX6_asks wsX6_asksOf := goodIn_r _ [13, 14, 15, 16, 17, 18, 19, 20, 3, 21, 22, 23, 24, 25, 26, 27, 28, 29, 30, 1, 2, 4, 31, 32, 33, 34, 35, 36, 37, 38, 39, 40, 41, 42, 43, 44, 45, 46, 47, 48, 49, 50, 51, 52, 53, 54, 55, 56, 57, 58, 59, 60, 61, 62, 63, 64, 65, 66, 67, 68, 69, 70, 71, 72, 73, 74, 75, 76, 77, 78, 79, 80, 81, 82, 83] rfl (by decide +kernel)
set_option maxRecDepth 20000 in
theorem gX6_asks_X6_asksOf : GoodIn wsX6_asks (wsV RX6 186 RX6 yX6_asksOf wsX6_asksOf) := goodIn_app (goodIn_of _ (by decide +kernel)) ggX6_asks_X6_asksOf
theorem dX6_asks_0 : decode cX6_asks 0 = .ok (.iload_n 1, 1) := by decide +kernel
theorem dX6_asks_1 : decode cX6_asks 1 = .ok (.iconst 0, 1) := by decide +kernel
theorem dX6_asks_2 : decode cX6_asks 2 = .ok (.iconst 2, 1) := by decide +kernel
theorem dX6_asks_3 : decode cX6_asks 3 = .ok (.invokestatic 81, 3) := by decide +kernel
theorem dX6_asks_6 : decode cX6_asks 6 = .ok (.ifCond .eq 20, 3) := by decide +kernel
theorem dX6_asks_9 : decode cX6_asks 9 = .ok (.aload_n 0, 1) := by decide +kernel
theorem dX6_asks_10 : decode cX6_asks 10 = .ok (.iload_n 2, 1) := by decide +kernel
theorem dX6_asks_11 : decode cX6_asks 11 = .ok (.invokevirtual 183, 3) := by decide +kernel
theorem dX6_asks_14 : decode cX6_asks 14 = .ok (.ifCond .eq 12, 3) := by decide +kernel
theorem dX6_asks_17 : decode cX6_asks 17 = .ok (.aload_n 0, 1) := by decide +kernel
theorem dX6_asks_18 : decode cX6_asks 18 = .ok (.iload_n 1, 1) := by decide +kernel
theorem dX6_asks_19 : decode cX6_asks 19 = .ok (.iload_n 2, 1) := by decide +kernel
theorem dX6_asks_20 : decode cX6_asks 20 = .ok (.invokevirtual 186, 3) := by decide +kernel
theorem dX6_asks_23 : decode cX6_asks 23 = .ok (.goto 6, 3) := by decide +kernel
theorem dX6_asks_26 : decode cX6_asks 26 = .ok (.sipush (-1000), 3) := by decide +kernel
theorem dX6_asks_29 : decode cX6_asks 29 = .ok (.ireturn, 1) := by decide +kernel
set_option maxRecDepth 20000 in
theorem ggX6_witness_X6_in : GoodIn wsX6_witness wsX6_in := goodIn_r _ [8] rfl (by decide +kernel)
set_option maxRecDepth 20000 in
theorem gX6_witness_X6_in : GoodIn wsX6_witness (va_wsS RX6 81 yX6_in wsX6_in) := goodIn_app (goodIn_of _ (by decide +kernel)) ggX6_witness_X6_in
theorem dX6_witness_0 : decode cX6_witness 0 = .ok (.iload_n 1, 1) := by decide +kernel
theorem dX6_witness_1 : decode cX6_witness 1 = .ok (.iconst 0, 1) := by decide +kernel
theorem dX6_witness_2 : decode cX6_witness 2 = .ok (.bipush 59, 2) := by decide +kernel
theorem dX6_witness_4 : decode cX6_witness 4 = .ok (.invokestatic 81, 3) := by decide +kernel
theorem dX6_witness_7 : decode cX6_witness 7 = .ok (.ifCond .eq 24, 3) := by decide +kernel
theorem dX6_witness_10 : decode cX6_witness 10 = .ok (.iload_n 2, 1) := by decide +kernel
theorem dX6_witness_11 : decode cX6_witness 11 = .ok (.iconst 0, 1) := by decide +kernel
theorem dX6_witness_12 : decode cX6_witness 12 = .ok (.sipush 1023, 3) := by decide +kernel
theorem dX6_witness_15 : decode cX6_witness 15 = .ok (.invokestatic 81, 3) := by decide +kernel
theorem dX6_witness_18 : decode cX6_witness 18 = .ok (.ifCond .eq 13, 3) := by decide +kernel
theorem dX6_witness_21 : decode cX6_witness 21 = .ok (.iload_n 3, 1) := by decide +kernel
theorem dX6_witness_22 : decode cX6_witness 22 = .ok (.iconst 0, 1) := by decide +kernel
theorem dX6_witness_23 : decode cX6_witness 23 = .ok (.bipush 99, 2) := by decide +kernel
theorem dX6_witness_25 : decode cX6_witness 25 = .ok (.invokestatic 81, 3) := by decide +kernel
theorem dX6_witness_28 : decode cX6_witness 28 = .ok (.ifCond .ne 6, 3) := by decide +kernel
theorem dX6_witness_31 : decode cX6_witness 31 = .ok (.bipush (-2), 2) := by decide +kernel
theorem dX6_witness_33 : decode cX6_witness 33 = .ok (.ireturn, 1) := by decide +kernel
theorem dX6_witness_34 : decode cX6_witness 34 = .ok (.aload_n 0, 1) := by decide +kernel
theorem dX6_witness_35 : decode cX6_witness 35 = .ok (.getfield 78, 3) := by decide +kernel
theorem dX6_witness_38 : decode cX6_witness 38 = .ok (.bipush 6, 2) := by decide +kernel
theorem dX6_witness_40 : decode cX6_witness 40 = .ok (.if_icmp .ne 6, 3) := by decide +kernel
theorem dX6_witness_43 : decode cX6_witness 43 = .ok (.bipush (-4), 2) := by decide +kernel
theorem dX6_witness_45 : decode cX6_witness 45 = .ok (.ireturn, 1) := by decide +kernel
theorem dX6_witness_46 : decode cX6_witness 46 = .ok (.aload_n 0, 1) := by decide +kernel
theorem dX6_witness_47 : decode cX6_witness 47 = .ok (.getfield 7, 3) := by decide +kernel
theorem dX6_witness_50 : decode cX6_witness 50 = .ok (.aload_n 0, 1) := by decide +kernel
theorem dX6_witness_51 : decode cX6_witness 51 = .ok (.getfield 78, 3) := by decide +kernel
theorem dX6_witness_54 : decode cX6_witness 54 = .ok (.iload_n 1, 1) := by decide +kernel
theorem dX6_witness_55 : decode cX6_witness 55 = .ok (.bipush 10, 2) := by decide +kernel
theorem dX6_witness_57 : decode cX6_witness 57 = .ok (.idiv, 1) := by decide +kernel
theorem dX6_witness_58 : decode cX6_witness 58 = .ok (.iastore, 1) := by decide +kernel
theorem dX6_witness_59 : decode cX6_witness 59 = .ok (.aload_n 0, 1) := by decide +kernel
theorem dX6_witness_60 : decode cX6_witness 60 = .ok (.getfield 13, 3) := by decide +kernel
theorem dX6_witness_63 : decode cX6_witness 63 = .ok (.aload_n 0, 1) := by decide +kernel
theorem dX6_witness_64 : decode cX6_witness 64 = .ok (.getfield 78, 3) := by decide +kernel
theorem dX6_witness_67 : decode cX6_witness 67 = .ok (.iload_n 1, 1) := by decide +kernel
theorem dX6_witness_68 : decode cX6_witness 68 = .ok (.bipush 10, 2) := by decide +kernel
theorem dX6_witness_70 : decode cX6_witness 70 = .ok (.irem, 1) := by decide +kernel
theorem dX6_witness_71 : decode cX6_witness 71 = .ok (.iastore, 1) := by decide +kernel
theorem dX6_witness_72 : decode cX6_witness 72 = .ok (.aload_n 0, 1) := by decide +kernel
theorem dX6_witness_73 : decode cX6_witness 73 = .ok (.getfield 16, 3) := by decide +kernel
theorem dX6_witness_76 : decode cX6_witness 76 = .ok (.iconst 3, 1) := by decide +kernel
theorem dX6_witness_77 : decode cX6_witness 77 = .ok (.aload_n 0, 1) := by decide +kernel
theorem dX6_witness_78 : decode cX6_witness 78 = .ok (.getfield 78, 3) := by decide +kernel
theorem dX6_witness_81 : decode cX6_witness 81 = .ok (.imul, 1) := by decide +kernel
theorem dX6_witness_82 : decode cX6_witness 82 = .ok (.iload_n 2, 1) := by decide +kernel
theorem dX6_witness_83 : decode cX6_witness 83 = .ok (.iastore, 1) := by decide +kernel
theorem dX6_witness_84 : decode cX6_witness 84 = .ok (.aload_n 0, 1) := by decide +kernel
theorem dX6_witness_85 : decode cX6_witness 85 = .ok (.getfield 16, 3) := by decide +kernel
theorem dX6_witness_88 : decode cX6_witness 88 = .ok (.iconst 3, 1) := by decide +kernel
theorem dX6_witness_89 : decode cX6_witness 89 = .ok (.aload_n 0, 1) := by decide +kernel
theorem dX6_witness_90 : decode cX6_witness 90 = .ok (.getfield 78, 3) := by decide +kernel
theorem dX6_witness_93 : decode cX6_witness 93 = .ok (.imul, 1) := by decide +kernel
theorem dX6_witness_94 : decode cX6_witness 94 = .ok (.iconst 1, 1) := by decide +kernel
theorem dX6_witness_95 : decode cX6_witness 95 = .ok (.iadd, 1) := by decide +kernel
theorem dX6_witness_96 : decode cX6_witness 96 = .ok (.iload_n 3, 1) := by decide +kernel
theorem dX6_witness_97 : decode cX6_witness 97 = .ok (.iastore, 1) := by decide +kernel
theorem dX6_witness_98 : decode cX6_witness 98 = .ok (.aload_n 0, 1) := by decide +kernel
theorem dX6_witness_99 : decode cX6_witness 99 = .ok (.getfield 16, 3) := by decide +kernel
theorem dX6_witness_102 : decode cX6_witness 102 = .ok (.iconst 3, 1) := by decide +kernel
theorem dX6_witness_103 : decode cX6_witness 103 = .ok (.aload_n 0, 1) := by decide +kernel
theorem dX6_witness_104 : decode cX6_witness 104 = .ok (.getfield 78, 3) := by decide +kernel
theorem dX6_witness_107 : decode cX6_witness 107 = .ok (.imul, 1) := by decide +kernel
theorem dX6_witness_108 : decode cX6_witness 108 = .ok (.iconst 2, 1) := by decide +kernel
theorem dX6_witness_109 : decode cX6_witness 109 = .ok (.iadd, 1) := by decide +kernel
theorem dX6_witness_110 : decode cX6_witness 110 = .ok (.iconst 0, 1) := by decide +kernel
theorem dX6_witness_111 : decode cX6_witness 111 = .ok (.iastore, 1) := by decide +kernel
theorem dX6_witness_112 : decode cX6_witness 112 = .ok (.aload_n 0, 1) := by decide +kernel
theorem dX6_witness_113 : decode cX6_witness 113 = .ok (.dup, 1) := by decide +kernel

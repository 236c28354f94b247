theorem dX6_copy_116 : decode cX6_copy 116 = .ok (.iload_n 3, 1) := by decide +kernel
theorem dX6_copy_117 : decode cX6_copy 117 = .ok (.iaload, 1) := by decide +kernel
theorem dX6_copy_118 : decode cX6_copy 118 = .ok (.iload 4, 2) := by decide +kernel
theorem dX6_copy_120 : decode cX6_copy 120 = .ok (.isub, 1) := by decide +kernel
theorem dX6_copy_121 : decode cX6_copy 121 = .ok (.if_icmp .le 6, 3) := by decide +kernel
theorem dX6_copy_124 : decode cX6_copy 124 = .ok (.bipush (-12), 2) := by decide +kernel
theorem dX6_copy_126 : decode cX6_copy 126 = .ok (.ireturn, 1) := by decide +kernel
theorem dX6_copy_127 : decode cX6_copy 127 = .ok (.bipush 40, 2) := by decide +kernel
theorem dX6_copy_129 : decode cX6_copy 129 = .ok (.iload_n 1, 1) := by decide +kernel
theorem dX6_copy_130 : decode cX6_copy 130 = .ok (.imul, 1) := by decide +kernel
theorem dX6_copy_131 : decode cX6_copy 131 = .ok (.iload_n 2, 1) := by decide +kernel
theorem dX6_copy_132 : decode cX6_copy 132 = .ok (.iadd, 1) := by decide +kernel
theorem dX6_copy_133 : decode cX6_copy 133 = .ok (.istore 6, 2) := by decide +kernel
theorem dX6_copy_135 : decode cX6_copy 135 = .ok (.bipush 40, 2) := by decide +kernel
theorem dX6_copy_137 : decode cX6_copy 137 = .ok (.iload_n 3, 1) := by decide +kernel
theorem dX6_copy_138 : decode cX6_copy 138 = .ok (.imul, 1) := by decide +kernel
theorem dX6_copy_139 : decode cX6_copy 139 = .ok (.iload 4, 2) := by decide +kernel
theorem dX6_copy_141 : decode cX6_copy 141 = .ok (.iadd, 1) := by decide +kernel
theorem dX6_copy_142 : decode cX6_copy 142 = .ok (.istore 7, 2) := by decide +kernel
theorem dX6_copy_144 : decode cX6_copy 144 = .ok (.iconst 0, 1) := by decide +kernel
theorem dX6_copy_145 : decode cX6_copy 145 = .ok (.istore 8, 2) := by decide +kernel
theorem dX6_copy_147 : decode cX6_copy 147 = .ok (.iload 8, 2) := by decide +kernel
theorem dX6_copy_149 : decode cX6_copy 149 = .ok (.iload 5, 2) := by decide +kernel
theorem dX6_copy_151 : decode cX6_copy 151 = .ok (.if_icmp .ge 50, 3) := by decide +kernel
theorem dX6_copy_154 : decode cX6_copy 154 = .ok (.iload 6, 2) := by decide +kernel
theorem dX6_copy_156 : decode cX6_copy 156 = .ok (.iload 7, 2) := by decide +kernel
theorem dX6_copy_158 : decode cX6_copy 158 = .ok (.if_icmp .ge 13, 3) := by decide +kernel
theorem dX6_copy_161 : decode cX6_copy 161 = .ok (.iload 5, 2) := by decide +kernel
theorem dX6_copy_163 : decode cX6_copy 163 = .ok (.iconst 1, 1) := by decide +kernel
theorem dX6_copy_164 : decode cX6_copy 164 = .ok (.isub, 1) := by decide +kernel
theorem dX6_copy_165 : decode cX6_copy 165 = .ok (.iload 8, 2) := by decide +kernel
theorem dX6_copy_167 : decode cX6_copy 167 = .ok (.isub, 1) := by decide +kernel
theorem dX6_copy_168 : decode cX6_copy 168 = .ok (.goto 5, 3) := by decide +kernel
theorem dX6_copy_171 : decode cX6_copy 171 = .ok (.iload 8, 2) := by decide +kernel
theorem dX6_copy_173 : decode cX6_copy 173 = .ok (.istore 9, 2) := by decide +kernel
theorem dX6_copy_175 : decode cX6_copy 175 = .ok (.aload_n 0, 1) := by decide +kernel
theorem dX6_copy_176 : decode cX6_copy 176 = .ok (.getfield 49, 3) := by decide +kernel
theorem dX6_copy_179 : decode cX6_copy 179 = .ok (.iload 7, 2) := by decide +kernel
theorem dX6_copy_181 : decode cX6_copy 181 = .ok (.iload 9, 2) := by decide +kernel
theorem dX6_copy_183 : decode cX6_copy 183 = .ok (.iadd, 1) := by decide +kernel
theorem dX6_copy_184 : decode cX6_copy 184 = .ok (.aload_n 0, 1) := by decide +kernel
theorem dX6_copy_185 : decode cX6_copy 185 = .ok (.getfield 49, 3) := by decide +kernel
theorem dX6_copy_188 : decode cX6_copy 188 = .ok (.iload 6, 2) := by decide +kernel
theorem dX6_copy_190 : decode cX6_copy 190 = .ok (.iload 9, 2) := by decide +kernel
theorem dX6_copy_192 : decode cX6_copy 192 = .ok (.iadd, 1) := by decide +kernel
theorem dX6_copy_193 : decode cX6_copy 193 = .ok (.iaload, 1) := by decide +kernel
theorem dX6_copy_194 : decode cX6_copy 194 = .ok (.iastore, 1) := by decide +kernel
theorem dX6_copy_195 : decode cX6_copy 195 = .ok (.iinc 8 1, 3) := by decide +kernel
theorem dX6_copy_198 : decode cX6_copy 198 = .ok (.goto (-51), 3) := by decide +kernel
theorem dX6_copy_201 : decode cX6_copy 201 = .ok (.iload 5, 2) := by decide +kernel
theorem dX6_copy_203 : decode cX6_copy 203 = .ok (.ireturn, 1) := by decide +kernel
set_option maxRecDepth 20000 in
theorem ggX6_witnessesBy_X6_in : GoodIn wsX6_witnessesBy wsX6_in := goodIn_r _ [7] rfl (by decide +kernel)
set_option maxRecDepth 20000 in
theorem gX6_witnessesBy_X6_in : GoodIn wsX6_witnessesBy (va_wsS RX6 81 yX6_in wsX6_in) := goodIn_app (goodIn_of _ (by decide +kernel)) ggX6_witnessesBy_X6_in
set_option maxRecDepth 20000 in
theorem ggX6_witnessesBy_X6_witness : GoodIn wsX6_witnessesBy wsX6_witness := goodIn_r _ [11, 12, 13, 14, 15, 4, 5, 6, 7, 16, 17, 18, 19, 20, 21, 22, 23, 24, 25, 26, 27, 28, 29, 30, 31, 32, 33, 34, 35, 36, 37, 38, 39, 40, 41, 42, 43, 44, 45, 46, 47, 48, 49, 50, 51, 52, 53] rfl (by decide +kernel)
set_option maxRecDepth 20000 in
theorem gX6_witnessesBy_X6_witness : GoodIn wsX6_witnessesBy (wsV RX6 275 RX6 yX6_witness wsX6_witness) := goodIn_app (goodIn_of _ (by decide +kernel)) ggX6_witnessesBy_X6_witness
theorem dX6_witnessesBy_0 : decode cX6_witnessesBy 0 = .ok (.iload_n 1, 1) := by decide +kernel
theorem dX6_witnessesBy_1 : decode cX6_witnessesBy 1 = .ok (.iconst 0, 1) := by decide +kernel
theorem dX6_witnessesBy_2 : decode cX6_witnessesBy 2 = .ok (.iconst 3, 1) := by decide +kernel
theorem dX6_witnessesBy_3 : decode cX6_witnessesBy 3 = .ok (.invokestatic 81, 3) := by decide +kernel
theorem dX6_witnessesBy_6 : decode cX6_witnessesBy 6 = .ok (.ifCond .eq 23, 3) := by decide +kernel
theorem dX6_witnessesBy_9 : decode cX6_witnessesBy 9 = .ok (.iload_n 2, 1) := by decide +kernel
theorem dX6_witnessesBy_10 : decode cX6_witnessesBy 10 = .ok (.iconst 0, 1) := by decide +kernel
theorem dX6_witnessesBy_11 : decode cX6_witnessesBy 11 = .ok (.iconst 2, 1) := by decide +kernel
theorem dX6_witnessesBy_12 : decode cX6_witnessesBy 12 = .ok (.invokestatic 81, 3) := by decide +kernel
theorem dX6_witnessesBy_15 : decode cX6_witnessesBy 15 = .ok (.ifCond .eq 14, 3) := by decide +kernel
theorem dX6_witnessesBy_18 : decode cX6_witnessesBy 18 = .ok (.iload 4, 2) := by decide +kernel
theorem dX6_witnessesBy_20 : decode cX6_witnessesBy 20 = .ok (.iconst 0, 1) := by decide +kernel
theorem dX6_witnessesBy_21 : decode cX6_witnessesBy 21 = .ok (.bipush 6, 2) := by decide +kernel
theorem dX6_witnessesBy_23 : decode cX6_witnessesBy 23 = .ok (.invokestatic 81, 3) := by decide +kernel
theorem dX6_witnessesBy_26 : decode cX6_witnessesBy 26 = .ok (.ifCond .ne 6, 3) := by decide +kernel
theorem dX6_witnessesBy_29 : decode cX6_witnessesBy 29 = .ok (.bipush (-2), 2) := by decide +kernel
theorem dX6_witnessesBy_31 : decode cX6_witnessesBy 31 = .ok (.ireturn, 1) := by decide +kernel
theorem dX6_witnessesBy_32 : decode cX6_witnessesBy 32 = .ok (.aload_n 0, 1) := by decide +kernel
theorem dX6_witnessesBy_33 : decode cX6_witnessesBy 33 = .ok (.getfield 43, 3) := by decide +kernel
theorem dX6_witnessesBy_36 : decode cX6_witnessesBy 36 = .ok (.iload_n 1, 1) := by decide +kernel
theorem dX6_witnessesBy_37 : decode cX6_witnessesBy 37 = .ok (.iaload, 1) := by decide +kernel
theorem dX6_witnessesBy_38 : decode cX6_witnessesBy 38 = .ok (.iconst (-1), 1) := by decide +kernel
theorem dX6_witnessesBy_39 : decode cX6_witnessesBy 39 = .ok (.if_icmp .ne 6, 3) := by decide +kernel
theorem dX6_witnessesBy_42 : decode cX6_witnessesBy 42 = .ok (.bipush (-11), 2) := by decide +kernel
theorem dX6_witnessesBy_44 : decode cX6_witnessesBy 44 = .ok (.ireturn, 1) := by decide +kernel
theorem dX6_witnessesBy_45 : decode cX6_witnessesBy 45 = .ok (.aload_n 0, 1) := by decide +kernel
theorem dX6_witnessesBy_46 : decode cX6_witnessesBy 46 = .ok (.getfield 43, 3) := by decide +kernel
theorem dX6_witnessesBy_49 : decode cX6_witnessesBy 49 = .ok (.iload_n 1, 1) := by decide +kernel
theorem dX6_witnessesBy_50 : decode cX6_witnessesBy 50 = .ok (.iaload, 1) := by decide +kernel
theorem dX6_witnessesBy_51 : decode cX6_witnessesBy 51 = .ok (.iload_n 2, 1) := by decide +kernel
theorem dX6_witnessesBy_52 : decode cX6_witnessesBy 52 = .ok (.if_icmp .eq 6, 3) := by decide +kernel
theorem dX6_witnessesBy_55 : decode cX6_witnessesBy 55 = .ok (.bipush (-13), 2) := by decide +kernel
theorem dX6_witnessesBy_57 : decode cX6_witnessesBy 57 = .ok (.ireturn, 1) := by decide +kernel
theorem dX6_witnessesBy_58 : decode cX6_witnessesBy 58 = .ok (.iconst 0, 1) := by decide +kernel
theorem dX6_witnessesBy_59 : decode cX6_witnessesBy 59 = .ok (.istore 5, 2) := by decide +kernel
theorem dX6_witnessesBy_61 : decode cX6_witnessesBy 61 = .ok (.iconst 0, 1) := by decide +kernel
theorem dX6_witnessesBy_62 : decode cX6_witnessesBy 62 = .ok (.istore 6, 2) := by decide +kernel
theorem dX6_witnessesBy_64 : decode cX6_witnessesBy 64 = .ok (.iload 6, 2) := by decide +kernel
theorem dX6_witnessesBy_66 : decode cX6_witnessesBy 66 = .ok (.iload 4, 2) := by decide +kernel
theorem dX6_witnessesBy_68 : decode cX6_witnessesBy 68 = .ok (.if_icmp .ge 94, 3) := by decide +kernel
theorem dX6_witnessesBy_71 : decode cX6_witnessesBy 71 = .ok (.iload_n 3, 1) := by decide +kernel
theorem dX6_witnessesBy_72 : decode cX6_witnessesBy 72 = .ok (.iconst 3, 1) := by decide +kernel
theorem dX6_witnessesBy_73 : decode cX6_witnessesBy 73 = .ok (.iload 6, 2) := by decide +kernel
theorem dX6_witnessesBy_75 : decode cX6_witnessesBy 75 = .ok (.imul, 1) := by decide +kernel
theorem dX6_witnessesBy_76 : decode cX6_witnessesBy 76 = .ok (.iadd, 1) := by decide +kernel
theorem dX6_witnessesBy_77 : decode cX6_witnessesBy 77 = .ok (.istore 7, 2) := by decide +kernel
theorem dX6_witnessesBy_79 : decode cX6_witnessesBy 79 = .ok (.iload_n 3, 1) := by decide +kernel
theorem dX6_witnessesBy_80 : decode cX6_witnessesBy 80 = .ok (.ifCond .lt 22, 3) := by decide +kernel
theorem dX6_witnessesBy_83 : decode cX6_witnessesBy 83 = .ok (.iload 7, 2) := by decide +kernel
theorem dX6_witnessesBy_85 : decode cX6_witnessesBy 85 = .ok (.iload_n 3, 1) := by decide +kernel
theorem dX6_witnessesBy_86 : decode cX6_witnessesBy 86 = .ok (.if_icmp .lt 16, 3) := by decide +kernel
theorem dX6_witnessesBy_89 : decode cX6_witnessesBy 89 = .ok (.iload 7, 2) := by decide +kernel
theorem dX6_witnessesBy_91 : decode cX6_witnessesBy 91 = .ok (.aload_n 0, 1) := by decide +kernel
theorem dX6_witnessesBy_92 : decode cX6_witnessesBy 92 = .ok (.getfield 46, 3) := by decide +kernel
theorem dX6_witnessesBy_95 : decode cX6_witnessesBy 95 = .ok (.iload_n 1, 1) := by decide +kernel
theorem dX6_witnessesBy_96 : decode cX6_witnessesBy 96 = .ok (.iaload, 1) := by decide +kernel
theorem dX6_witnessesBy_97 : decode cX6_witnessesBy 97 = .ok (.iconst 3, 1) := by decide +kernel
theorem dX6_witnessesBy_98 : decode cX6_witnessesBy 98 = .ok (.isub, 1) := by decide +kernel
theorem dX6_witnessesBy_99 : decode cX6_witnessesBy 99 = .ok (.if_icmp .le 6, 3) := by decide +kernel
theorem dX6_witnessesBy_102 : decode cX6_witnessesBy 102 = .ok (.bipush (-12), 2) := by decide +kernel
theorem dX6_witnessesBy_104 : decode cX6_witnessesBy 104 = .ok (.ireturn, 1) := by decide +kernel
theorem dX6_witnessesBy_105 : decode cX6_witnessesBy 105 = .ok (.bipush 40, 2) := by decide +kernel
theorem dX6_witnessesBy_107 : decode cX6_witnessesBy 107 = .ok (.iload_n 1, 1) := by decide +kernel
theorem dX6_witnessesBy_108 : decode cX6_witnessesBy 108 = .ok (.imul, 1) := by decide +kernel
theorem dX6_witnessesBy_109 : decode cX6_witnessesBy 109 = .ok (.iload 7, 2) := by decide +kernel
theorem dX6_witnessesBy_111 : decode cX6_witnessesBy 111 = .ok (.iadd, 1) := by decide +kernel
theorem dX6_witnessesBy_112 : decode cX6_witnessesBy 112 = .ok (.istore 8, 2) := by decide +kernel
theorem dX6_witnessesBy_114 : decode cX6_witnessesBy 114 = .ok (.iload 5, 2) := by decide +kernel
theorem dX6_witnessesBy_116 : decode cX6_witnessesBy 116 = .ok (.aload_n 0, 1) := by decide +kernel
theorem dX6_witnessesBy_117 : decode cX6_witnessesBy 117 = .ok (.aload_n 0, 1) := by decide +kernel
theorem dX6_witnessesBy_118 : decode cX6_witnessesBy 118 = .ok (.getfield 49, 3) := by decide +kernel
theorem dX6_witnessesBy_121 : decode cX6_witnessesBy 121 = .ok (.iload 8, 2) := by decide +kernel
theorem dX6_witnessesBy_123 : decode cX6_witnessesBy 123 = .ok (.iaload, 1) := by decide +kernel
theorem dX6_witnessesBy_124 : decode cX6_witnessesBy 124 = .ok (.aload_n 0, 1) := by decide +kernel
theorem dX6_witnessesBy_125 : decode cX6_witnessesBy 125 = .ok (.getfield 49, 3) := by decide +kernel
theorem dX6_witnessesBy_128 : decode cX6_witnessesBy 128 = .ok (.iload 8, 2) := by decide +kernel
theorem dX6_witnessesBy_130 : decode cX6_witnessesBy 130 = .ok (.iconst 1, 1) := by decide +kernel
theorem dX6_witnessesBy_131 : decode cX6_witnessesBy 131 = .ok (.iadd, 1) := by decide +kernel
theorem dX6_witnessesBy_132 : decode cX6_witnessesBy 132 = .ok (.iaload, 1) := by decide +kernel
theorem dX6_witnessesBy_133 : decode cX6_witnessesBy 133 = .ok (.aload_n 0, 1) := by decide +kernel
theorem dX6_witnessesBy_134 : decode cX6_witnessesBy 134 = .ok (.getfield 49, 3) := by decide +kernel
theorem dX6_witnessesBy_137 : decode cX6_witnessesBy 137 = .ok (.iload 8, 2) := by decide +kernel
theorem dX6_witnessesBy_139 : decode cX6_witnessesBy 139 = .ok (.iconst 2, 1) := by decide +kernel
theorem dX6_witnessesBy_140 : decode cX6_witnessesBy 140 = .ok (.iadd, 1) := by decide +kernel
theorem dX6_witnessesBy_141 : decode cX6_witnessesBy 141 = .ok (.iaload, 1) := by decide +kernel
theorem dX6_witnessesBy_142 : decode cX6_witnessesBy 142 = .ok (.invokevirtual 275, 3) := by decide +kernel
theorem dX6_witnessesBy_145 : decode cX6_witnessesBy 145 = .ok (.ifCond .lt 7, 3) := by decide +kernel
theorem dX6_witnessesBy_148 : decode cX6_witnessesBy 148 = .ok (.iconst 1, 1) := by decide +kernel
theorem dX6_witnessesBy_149 : decode cX6_witnessesBy 149 = .ok (.goto 4, 3) := by decide +kernel
theorem dX6_witnessesBy_152 : decode cX6_witnessesBy 152 = .ok (.iconst 0, 1) := by decide +kernel
theorem dX6_witnessesBy_153 : decode cX6_witnessesBy 153 = .ok (.iadd, 1) := by decide +kernel
theorem dX6_witnessesBy_154 : decode cX6_witnessesBy 154 = .ok (.istore 5, 2) := by decide +kernel
theorem dX6_witnessesBy_156 : decode cX6_witnessesBy 156 = .ok (.iinc 6 1, 3) := by decide +kernel
theorem dX6_witnessesBy_159 : decode cX6_witnessesBy 159 = .ok (.goto (-95), 3) := by decide +kernel
theorem dX6_witnessesBy_162 : decode cX6_witnessesBy 162 = .ok (.iload 5, 2) := by decide +kernel
theorem dX6_witnessesBy_164 : decode cX6_witnessesBy 164 = .ok (.ireturn, 1) := by decide +kernel
theorem dX6_isUnder_0 : decode cX6_isUnder 0 = .ok (.iload_n 1, 1) := by decide +kernel
theorem dX6_isUnder_1 : decode cX6_isUnder 1 = .ok (.ifCond .eq 28, 3) := by decide +kernel
theorem dX6_isUnder_4 : decode cX6_isUnder 4 = .ok (.iload_n 0, 1) := by decide +kernel
theorem dX6_isUnder_5 : decode cX6_isUnder 5 = .ok (.iload_n 1, 1) := by decide +kernel
theorem dX6_isUnder_6 : decode cX6_isUnder 6 = .ok (.if_icmp .eq 23, 3) := by decide +kernel
theorem dX6_isUnder_9 : decode cX6_isUnder 9 = .ok (.iload_n 1, 1) := by decide +kernel
theorem dX6_isUnder_10 : decode cX6_isUnder 10 = .ok (.iconst 1, 1) := by decide +kernel
theorem dX6_isUnder_11 : decode cX6_isUnder 11 = .ok (.if_icmp .ne 8, 3) := by decide +kernel
theorem dX6_isUnder_14 : decode cX6_isUnder 14 = .ok (.iload_n 0, 1) := by decide +kernel
theorem dX6_isUnder_15 : decode cX6_isUnder 15 = .ok (.iconst 3, 1) := by decide +kernel
theorem dX6_isUnder_16 : decode cX6_isUnder 16 = .ok (.if_icmp .eq 13, 3) := by decide +kernel
theorem dX6_isUnder_19 : decode cX6_isUnder 19 = .ok (.iload_n 1, 1) := by decide +kernel
theorem dX6_isUnder_20 : decode cX6_isUnder 20 = .ok (.iconst 2, 1) := by decide +kernel
theorem dX6_isUnder_21 : decode cX6_isUnder 21 = .ok (.if_icmp .ne 12, 3) := by decide +kernel
theorem dX6_isUnder_24 : decode cX6_isUnder 24 = .ok (.iload_n 0, 1) := by decide +kernel
theorem dX6_isUnder_25 : decode cX6_isUnder 25 = .ok (.iconst 4, 1) := by decide +kernel
theorem dX6_isUnder_26 : decode cX6_isUnder 26 = .ok (.if_icmp .ne 7, 3) := by decide +kernel
theorem dX6_isUnder_29 : decode cX6_isUnder 29 = .ok (.iconst 1, 1) := by decide +kernel
theorem dX6_isUnder_30 : decode cX6_isUnder 30 = .ok (.goto 4, 3) := by decide +kernel
theorem dX6_isUnder_33 : decode cX6_isUnder 33 = .ok (.iconst 0, 1) := by decide +kernel
theorem dX6_isUnder_34 : decode cX6_isUnder 34 = .ok (.ireturn, 1) := by decide +kernel
set_option maxRecDepth 20000 in
theorem ggX6_taken_X6_in : GoodIn wsX6_taken wsX6_in := goodIn_r _ [7] rfl (by decide +kernel)
set_option maxRecDepth 20000 in
theorem gX6_taken_X6_in : GoodIn wsX6_taken (va_wsS RX6 81 yX6_in wsX6_in) := goodIn_app (goodIn_of _ (by decide +kernel)) ggX6_taken_X6_in
set_option maxRecDepth 20000 in
theorem ggX6_taken_X6_isLinen : GoodIn wsX6_taken wsX6_isLinen := goodIn_r _ [11, 1, 4, 5, 6, 7, 12, 13, 14, 18, 19, 20, 21, 22, 23, 24, 25, 26, 27, 28, 29, 30, 31, 32, 33, 34, 35, 36, 37, 38, 39, 40, 41, 42, 43, 44, 45, 46, 47, 48, 49, 50, 51, 52, 53, 54, 55] rfl (by decide +kernel)
set_option maxRecDepth 20000 in
theorem gX6_taken_X6_isLinen : GoodIn wsX6_taken (wsV RX6 89 RX6 yX6_isLinen wsX6_isLinen) := goodIn_app (goodIn_of _ (by decide +kernel)) ggX6_taken_X6_isLinen
set_option maxRecDepth 20000 in
theorem ggX6_taken_X6_isUnder : GoodIn wsX6_taken wsX6_isUnder := goodIn_r _ [17] rfl (by decide +kernel)
set_option maxRecDepth 20000 in
theorem gX6_taken_X6_isUnder : GoodIn wsX6_taken (va_wsS RX6 278 yX6_isUnder wsX6_isUnder) := goodIn_app (goodIn_of _ (by decide +kernel)) ggX6_taken_X6_isUnder
theorem dX6_taken_0 : decode cX6_taken 0 = .ok (.iload_n 2, 1) := by decide +kernel
theorem dX6_taken_1 : decode cX6_taken 1 = .ok (.iconst 0, 1) := by decide +kernel
theorem dX6_taken_2 : decode cX6_taken 2 = .ok (.bipush 6, 2) := by decide +kernel
theorem dX6_taken_4 : decode cX6_taken 4 = .ok (.invokestatic 81, 3) := by decide +kernel
theorem dX6_taken_7 : decode cX6_taken 7 = .ok (.ifCond .ne 6, 3) := by decide +kernel
theorem dX6_taken_10 : decode cX6_taken 10 = .ok (.bipush (-2), 2) := by decide +kernel
theorem dX6_taken_12 : decode cX6_taken 12 = .ok (.ireturn, 1) := by decide +kernel
theorem dX6_taken_13 : decode cX6_taken 13 = .ok (.iload_n 1, 1) := by decide +kernel
theorem dX6_taken_14 : decode cX6_taken 14 = .ok (.iconst 0, 1) := by decide +kernel
theorem dX6_taken_15 : decode cX6_taken 15 = .ok (.bipush 13, 2) := by decide +kernel
theorem dX6_taken_17 : decode cX6_taken 17 = .ok (.invokestatic 81, 3) := by decide +kernel
theorem dX6_taken_20 : decode cX6_taken 20 = .ok (.ifCond .ne 6, 3) := by decide +kernel
theorem dX6_taken_23 : decode cX6_taken 23 = .ok (.bipush (-12), 2) := by decide +kernel
theorem dX6_taken_25 : decode cX6_taken 25 = .ok (.ireturn, 1) := by decide +kernel
theorem dX6_taken_26 : decode cX6_taken 26 = .ok (.iload_n 1, 1) := by decide +kernel
theorem dX6_taken_27 : decode cX6_taken 27 = .ok (.bipush 6, 2) := by decide +kernel
theorem dX6_taken_29 : decode cX6_taken 29 = .ok (.if_icmp .lt 43, 3) := by decide +kernel
theorem dX6_taken_32 : decode cX6_taken 32 = .ok (.iload_n 1, 1) := by decide +kernel
theorem dX6_taken_33 : decode cX6_taken 33 = .ok (.bipush 6, 2) := by decide +kernel
theorem dX6_taken_35 : decode cX6_taken 35 = .ok (.isub, 1) := by decide +kernel
theorem dX6_taken_36 : decode cX6_taken 36 = .ok (.istore_n 3, 1) := by decide +kernel
theorem dX6_taken_37 : decode cX6_taken 37 = .ok (.aload_n 0, 1) := by decide +kernel
theorem dX6_taken_38 : decode cX6_taken 38 = .ok (.iload_n 3, 1) := by decide +kernel
theorem dX6_taken_39 : decode cX6_taken 39 = .ok (.invokevirtual 89, 3) := by decide +kernel
theorem dX6_taken_42 : decode cX6_taken 42 = .ok (.ifCond .ne 8, 3) := by decide +kernel
theorem dX6_taken_45 : decode cX6_taken 45 = .ok (.bipush (-11), 2) := by decide +kernel
theorem dX6_taken_47 : decode cX6_taken 47 = .ok (.goto 24, 3) := by decide +kernel
theorem dX6_taken_50 : decode cX6_taken 50 = .ok (.iload_n 2, 1) := by decide +kernel
theorem dX6_taken_51 : decode cX6_taken 51 = .ok (.bipush 6, 2) := by decide +kernel
theorem dX6_taken_53 : decode cX6_taken 53 = .ok (.if_icmp .ne 16, 3) := by decide +kernel
theorem dX6_taken_56 : decode cX6_taken 56 = .ok (.aload_n 0, 1) := by decide +kernel
theorem dX6_taken_57 : decode cX6_taken 57 = .ok (.getfield 19, 3) := by decide +kernel
theorem dX6_taken_60 : decode cX6_taken 60 = .ok (.iconst 3, 1) := by decide +kernel
theorem dX6_taken_61 : decode cX6_taken 61 = .ok (.iload_n 3, 1) := by decide +kernel
theorem dX6_taken_62 : decode cX6_taken 62 = .ok (.imul, 1) := by decide +kernel
theorem dX6_taken_63 : decode cX6_taken 63 = .ok (.iconst 1, 1) := by decide +kernel
theorem dX6_taken_64 : decode cX6_taken 64 = .ok (.iadd, 1) := by decide +kernel
theorem dX6_taken_65 : decode cX6_taken 65 = .ok (.iaload, 1) := by decide +kernel
theorem dX6_taken_66 : decode cX6_taken 66 = .ok (.goto 5, 3) := by decide +kernel
theorem dX6_taken_69 : decode cX6_taken 69 = .ok (.bipush (-13), 2) := by decide +kernel
theorem dX6_taken_71 : decode cX6_taken 71 = .ok (.ireturn, 1) := by decide +kernel
theorem dX6_taken_72 : decode cX6_taken 72 = .ok (.iload_n 1, 1) := by decide +kernel
theorem dX6_taken_73 : decode cX6_taken 73 = .ok (.aload_n 0, 1) := by decide +kernel
theorem dX6_taken_74 : decode cX6_taken 74 = .ok (.getfield 78, 3) := by decide +kernel
theorem dX6_taken_77 : decode cX6_taken 77 = .ok (.if_icmp .lt 8, 3) := by decide +kernel
theorem dX6_taken_80 : decode cX6_taken 80 = .ok (.bipush (-11), 2) := by decide +kernel
theorem dX6_taken_82 : decode cX6_taken 82 = .ok (.goto 28, 3) := by decide +kernel
theorem dX6_taken_85 : decode cX6_taken 85 = .ok (.iload_n 2, 1) := by decide +kernel
theorem dX6_taken_86 : decode cX6_taken 86 = .ok (.bipush 6, 2) := by decide +kernel
theorem dX6_taken_88 : decode cX6_taken 88 = .ok (.if_icmp .ge 20, 3) := by decide +kernel
theorem dX6_taken_91 : decode cX6_taken 91 = .ok (.aload_n 0, 1) := by decide +kernel
theorem dX6_taken_92 : decode cX6_taken 92 = .ok (.getfield 7, 3) := by decide +kernel
theorem dX6_taken_95 : decode cX6_taken 95 = .ok (.iload_n 1, 1) := by decide +kernel
theorem dX6_taken_96 : decode cX6_taken 96 = .ok (.iaload, 1) := by decide +kernel
theorem dX6_taken_97 : decode cX6_taken 97 = .ok (.iload_n 2, 1) := by decide +kernel
theorem dX6_taken_98 : decode cX6_taken 98 = .ok (.invokestatic 278, 3) := by decide +kernel
theorem dX6_taken_101 : decode cX6_taken 101 = .ok (.ifCond .eq 7, 3) := by decide +kernel
theorem dX6_taken_104 : decode cX6_taken 104 = .ok (.iload_n 1, 1) := by decide +kernel
theorem dX6_taken_105 : decode cX6_taken 105 = .ok (.goto 5, 3) := by decide +kernel
theorem dX6_taken_108 : decode cX6_taken 108 = .ok (.bipush (-13), 2) := by decide +kernel
theorem dX6_taken_110 : decode cX6_taken 110 = .ok (.ireturn, 1) := by decide +kernel

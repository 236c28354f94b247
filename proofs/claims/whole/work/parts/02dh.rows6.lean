theorem dX6_hourOf_64 : decode cX6_hourOf 64 = .ok (.ior, 1) := by decide +kernel
theorem dX6_hourOf_65 : decode cX6_hourOf 65 = .ok (.istore_n 1, 1) := by decide +kernel
theorem dX6_hourOf_66 : decode cX6_hourOf 66 = .ok (.aload_n 0, 1) := by decide +kernel
theorem dX6_hourOf_67 : decode cX6_hourOf 67 = .ok (.dup, 1) := by decide +kernel
theorem dX6_hourOf_68 : decode cX6_hourOf 68 = .ok (.getfield 109, 3) := by decide +kernel
theorem dX6_hourOf_71 : decode cX6_hourOf 71 = .ok (.iconst 1, 1) := by decide +kernel
theorem dX6_hourOf_72 : decode cX6_hourOf 72 = .ok (.aload_n 0, 1) := by decide +kernel
theorem dX6_hourOf_73 : decode cX6_hourOf 73 = .ok (.getfield 19, 3) := by decide +kernel
theorem dX6_hourOf_76 : decode cX6_hourOf 76 = .ok (.iconst 3, 1) := by decide +kernel
theorem dX6_hourOf_77 : decode cX6_hourOf 77 = .ok (.iload_n 3, 1) := by decide +kernel
theorem dX6_hourOf_78 : decode cX6_hourOf 78 = .ok (.imul, 1) := by decide +kernel
theorem dX6_hourOf_79 : decode cX6_hourOf 79 = .ok (.iconst 1, 1) := by decide +kernel
theorem dX6_hourOf_80 : decode cX6_hourOf 80 = .ok (.iadd, 1) := by decide +kernel
theorem dX6_hourOf_81 : decode cX6_hourOf 81 = .ok (.iaload, 1) := by decide +kernel
theorem dX6_hourOf_82 : decode cX6_hourOf 82 = .ok (.ishl, 1) := by decide +kernel
theorem dX6_hourOf_83 : decode cX6_hourOf 83 = .ok (.ior, 1) := by decide +kernel
theorem dX6_hourOf_84 : decode cX6_hourOf 84 = .ok (.putfield 109, 3) := by decide +kernel
theorem dX6_hourOf_87 : decode cX6_hourOf 87 = .ok (.aload_n 0, 1) := by decide +kernel
theorem dX6_hourOf_88 : decode cX6_hourOf 88 = .ok (.getfield 19, 3) := by decide +kernel
theorem dX6_hourOf_91 : decode cX6_hourOf 91 = .ok (.iconst 3, 1) := by decide +kernel
theorem dX6_hourOf_92 : decode cX6_hourOf 92 = .ok (.iload_n 3, 1) := by decide +kernel
theorem dX6_hourOf_93 : decode cX6_hourOf 93 = .ok (.imul, 1) := by decide +kernel
theorem dX6_hourOf_94 : decode cX6_hourOf 94 = .ok (.iconst (-1), 1) := by decide +kernel
theorem dX6_hourOf_95 : decode cX6_hourOf 95 = .ok (.iastore, 1) := by decide +kernel
theorem dX6_hourOf_96 : decode cX6_hourOf 96 = .ok (.goto 69, 3) := by decide +kernel
theorem dX6_hourOf_99 : decode cX6_hourOf 99 = .ok (.aload_n 0, 1) := by decide +kernel
theorem dX6_hourOf_100 : decode cX6_hourOf 100 = .ok (.getfield 19, 3) := by decide +kernel
theorem dX6_hourOf_103 : decode cX6_hourOf 103 = .ok (.iconst 3, 1) := by decide +kernel
theorem dX6_hourOf_104 : decode cX6_hourOf 104 = .ok (.iload_n 3, 1) := by decide +kernel
theorem dX6_hourOf_105 : decode cX6_hourOf 105 = .ok (.imul, 1) := by decide +kernel
theorem dX6_hourOf_106 : decode cX6_hourOf 106 = .ok (.iconst 2, 1) := by decide +kernel
theorem dX6_hourOf_107 : decode cX6_hourOf 107 = .ok (.iadd, 1) := by decide +kernel
theorem dX6_hourOf_108 : decode cX6_hourOf 108 = .ok (.dup2, 1) := by decide +kernel
theorem dX6_hourOf_109 : decode cX6_hourOf 109 = .ok (.iaload, 1) := by decide +kernel
theorem dX6_hourOf_110 : decode cX6_hourOf 110 = .ok (.iconst 1, 1) := by decide +kernel
theorem dX6_hourOf_111 : decode cX6_hourOf 111 = .ok (.isub, 1) := by decide +kernel
theorem dX6_hourOf_112 : decode cX6_hourOf 112 = .ok (.iastore, 1) := by decide +kernel
theorem dX6_hourOf_113 : decode cX6_hourOf 113 = .ok (.aload_n 0, 1) := by decide +kernel
theorem dX6_hourOf_114 : decode cX6_hourOf 114 = .ok (.getfield 19, 3) := by decide +kernel
theorem dX6_hourOf_117 : decode cX6_hourOf 117 = .ok (.iconst 3, 1) := by decide +kernel
theorem dX6_hourOf_118 : decode cX6_hourOf 118 = .ok (.iload_n 3, 1) := by decide +kernel
theorem dX6_hourOf_119 : decode cX6_hourOf 119 = .ok (.imul, 1) := by decide +kernel
theorem dX6_hourOf_120 : decode cX6_hourOf 120 = .ok (.iconst 2, 1) := by decide +kernel
theorem dX6_hourOf_121 : decode cX6_hourOf 121 = .ok (.iadd, 1) := by decide +kernel
theorem dX6_hourOf_122 : decode cX6_hourOf 122 = .ok (.iaload, 1) := by decide +kernel
theorem dX6_hourOf_123 : decode cX6_hourOf 123 = .ok (.ifCond .ne 42, 3) := by decide +kernel
theorem dX6_hourOf_126 : decode cX6_hourOf 126 = .ok (.aload_n 0, 1) := by decide +kernel
theorem dX6_hourOf_127 : decode cX6_hourOf 127 = .ok (.getfield 19, 3) := by decide +kernel
theorem dX6_hourOf_130 : decode cX6_hourOf 130 = .ok (.iconst 3, 1) := by decide +kernel
theorem dX6_hourOf_131 : decode cX6_hourOf 131 = .ok (.iload_n 3, 1) := by decide +kernel
theorem dX6_hourOf_132 : decode cX6_hourOf 132 = .ok (.imul, 1) := by decide +kernel
theorem dX6_hourOf_133 : decode cX6_hourOf 133 = .ok (.iconst (-1), 1) := by decide +kernel
theorem dX6_hourOf_134 : decode cX6_hourOf 134 = .ok (.iastore, 1) := by decide +kernel
theorem dX6_hourOf_135 : decode cX6_hourOf 135 = .ok (.aload_n 0, 1) := by decide +kernel
theorem dX6_hourOf_136 : decode cX6_hourOf 136 = .ok (.getfield 16, 3) := by decide +kernel
theorem dX6_hourOf_139 : decode cX6_hourOf 139 = .ok (.iconst 3, 1) := by decide +kernel
theorem dX6_hourOf_140 : decode cX6_hourOf 140 = .ok (.iload 4, 2) := by decide +kernel
theorem dX6_hourOf_142 : decode cX6_hourOf 142 = .ok (.imul, 1) := by decide +kernel
theorem dX6_hourOf_143 : decode cX6_hourOf 143 = .ok (.iconst 2, 1) := by decide +kernel
theorem dX6_hourOf_144 : decode cX6_hourOf 144 = .ok (.iadd, 1) := by decide +kernel
theorem dX6_hourOf_145 : decode cX6_hourOf 145 = .ok (.aload_n 0, 1) := by decide +kernel
theorem dX6_hourOf_146 : decode cX6_hourOf 146 = .ok (.getfield 16, 3) := by decide +kernel
theorem dX6_hourOf_149 : decode cX6_hourOf 149 = .ok (.iconst 3, 1) := by decide +kernel
theorem dX6_hourOf_150 : decode cX6_hourOf 150 = .ok (.iload 4, 2) := by decide +kernel
theorem dX6_hourOf_152 : decode cX6_hourOf 152 = .ok (.imul, 1) := by decide +kernel
theorem dX6_hourOf_153 : decode cX6_hourOf 153 = .ok (.iconst 2, 1) := by decide +kernel
theorem dX6_hourOf_154 : decode cX6_hourOf 154 = .ok (.iadd, 1) := by decide +kernel
theorem dX6_hourOf_155 : decode cX6_hourOf 155 = .ok (.iaload, 1) := by decide +kernel
theorem dX6_hourOf_156 : decode cX6_hourOf 156 = .ok (.iconst 1, 1) := by decide +kernel
theorem dX6_hourOf_157 : decode cX6_hourOf 157 = .ok (.iadd, 1) := by decide +kernel
theorem dX6_hourOf_158 : decode cX6_hourOf 158 = .ok (.iconst 0, 1) := by decide +kernel
theorem dX6_hourOf_159 : decode cX6_hourOf 159 = .ok (.bipush 99, 2) := by decide +kernel
theorem dX6_hourOf_161 : decode cX6_hourOf 161 = .ok (.invokestatic 85, 3) := by decide +kernel
theorem dX6_hourOf_164 : decode cX6_hourOf 164 = .ok (.iastore, 1) := by decide +kernel
theorem dX6_hourOf_165 : decode cX6_hourOf 165 = .ok (.iinc 3 1, 3) := by decide +kernel
theorem dX6_hourOf_168 : decode cX6_hourOf 168 = .ok (.goto (-156), 3) := by decide +kernel
theorem dX6_hourOf_171 : decode cX6_hourOf 171 = .ok (.aload_n 0, 1) := by decide +kernel
theorem dX6_hourOf_172 : decode cX6_hourOf 172 = .ok (.dup, 1) := by decide +kernel
theorem dX6_hourOf_173 : decode cX6_hourOf 173 = .ok (.getfield 93, 3) := by decide +kernel
theorem dX6_hourOf_176 : decode cX6_hourOf 176 = .ok (.iconst 1, 1) := by decide +kernel
theorem dX6_hourOf_177 : decode cX6_hourOf 177 = .ok (.iadd, 1) := by decide +kernel
theorem dX6_hourOf_178 : decode cX6_hourOf 178 = .ok (.putfield 93, 3) := by decide +kernel
theorem dX6_hourOf_181 : decode cX6_hourOf 181 = .ok (.iload_n 1, 1) := by decide +kernel
theorem dX6_hourOf_182 : decode cX6_hourOf 182 = .ok (.ireturn, 1) := by decide +kernel
set_option maxRecDepth 20000 in
theorem ggX6_hour_X6_hourOf : GoodIn wsX6_hour wsX6_hourOf := goodIn_r _ [6, 1, 7, 8, 9, 10, 11, 12, 5, 13, 14, 15, 16, 17, 18, 19, 20, 21, 22, 23, 24, 25, 26, 27, 28, 29, 30, 31, 32, 33, 34, 35, 36, 37, 38, 39, 40, 41, 42, 43, 44, 45, 46, 47, 48, 49, 50, 51, 52, 53, 54, 55, 56, 57, 58, 59, 60, 61, 62, 63, 64, 65, 66, 67, 68, 69, 70, 71, 72, 73, 74, 75, 76, 77, 78, 79, 80, 81, 82, 83, 84, 85, 86, 87, 88, 89, 90, 91, 92] rfl (by decide +kernel)
set_option maxRecDepth 20000 in
theorem gX6_hour_X6_hourOf : GoodIn wsX6_hour (wsV RX6 213 RX6 yX6_hourOf wsX6_hourOf) := goodIn_app (goodIn_of _ (by decide +kernel)) ggX6_hour_X6_hourOf
theorem dX6_hour_0 : decode cX6_hour 0 = .ok (.aload_n 0, 1) := by decide +kernel
theorem dX6_hour_1 : decode cX6_hour 1 = .ok (.getfield 93, 3) := by decide +kernel
theorem dX6_hour_4 : decode cX6_hour 4 = .ok (.sipush 999, 3) := by decide +kernel
theorem dX6_hour_7 : decode cX6_hour 7 = .ok (.if_icmp .ne 8, 3) := by decide +kernel
theorem dX6_hour_10 : decode cX6_hour 10 = .ok (.bipush (-3), 2) := by decide +kernel
theorem dX6_hour_12 : decode cX6_hour 12 = .ok (.goto 7, 3) := by decide +kernel
theorem dX6_hour_15 : decode cX6_hour 15 = .ok (.aload_n 0, 1) := by decide +kernel
theorem dX6_hour_16 : decode cX6_hour 16 = .ok (.invokevirtual 213, 3) := by decide +kernel
theorem dX6_hour_19 : decode cX6_hour 19 = .ok (.ireturn, 1) := by decide +kernel
set_option maxRecDepth 20000 in
theorem ggX6_burn_X6_isLinen : GoodIn wsX6_burn wsX6_isLinen := goodIn_r _ [6, 1, 7, 8, 5, 9, 10, 11, 12, 13, 14, 15, 16, 17, 18, 19, 20, 21, 22, 23, 24, 25, 26, 27, 28, 29, 30, 31, 32, 33, 34, 35, 36, 37, 38, 39, 40, 41, 42, 43, 44, 45, 46, 47, 48, 49, 50] rfl (by decide +kernel)
set_option maxRecDepth 20000 in
theorem gX6_burn_X6_isLinen : GoodIn wsX6_burn (wsV RX6 89 RX6 yX6_isLinen wsX6_isLinen) := goodIn_app (goodIn_of _ (by decide +kernel)) ggX6_burn_X6_isLinen
theorem dX6_burn_0 : decode cX6_burn 0 = .ok (.aload_n 0, 1) := by decide +kernel
theorem dX6_burn_1 : decode cX6_burn 1 = .ok (.iload_n 1, 1) := by decide +kernel
theorem dX6_burn_2 : decode cX6_burn 2 = .ok (.invokevirtual 89, 3) := by decide +kernel
theorem dX6_burn_5 : decode cX6_burn 5 = .ok (.ifCond .ne 6, 3) := by decide +kernel
theorem dX6_burn_8 : decode cX6_burn 8 = .ok (.bipush (-6), 2) := by decide +kernel
theorem dX6_burn_10 : decode cX6_burn 10 = .ok (.ireturn, 1) := by decide +kernel
theorem dX6_burn_11 : decode cX6_burn 11 = .ok (.aload_n 0, 1) := by decide +kernel
theorem dX6_burn_12 : decode cX6_burn 12 = .ok (.getfield 19, 3) := by decide +kernel
theorem dX6_burn_15 : decode cX6_burn 15 = .ok (.iconst 3, 1) := by decide +kernel
theorem dX6_burn_16 : decode cX6_burn 16 = .ok (.iload_n 1, 1) := by decide +kernel
theorem dX6_burn_17 : decode cX6_burn 17 = .ok (.imul, 1) := by decide +kernel
theorem dX6_burn_18 : decode cX6_burn 18 = .ok (.iconst (-1), 1) := by decide +kernel
theorem dX6_burn_19 : decode cX6_burn 19 = .ok (.iastore, 1) := by decide +kernel
theorem dX6_burn_20 : decode cX6_burn 20 = .ok (.aload_n 0, 1) := by decide +kernel
theorem dX6_burn_21 : decode cX6_burn 21 = .ok (.getfield 19, 3) := by decide +kernel
theorem dX6_burn_24 : decode cX6_burn 24 = .ok (.iconst 3, 1) := by decide +kernel
theorem dX6_burn_25 : decode cX6_burn 25 = .ok (.iload_n 1, 1) := by decide +kernel
theorem dX6_burn_26 : decode cX6_burn 26 = .ok (.imul, 1) := by decide +kernel
theorem dX6_burn_27 : decode cX6_burn 27 = .ok (.iconst 1, 1) := by decide +kernel
theorem dX6_burn_28 : decode cX6_burn 28 = .ok (.iadd, 1) := by decide +kernel
theorem dX6_burn_29 : decode cX6_burn 29 = .ok (.iaload, 1) := by decide +kernel
theorem dX6_burn_30 : decode cX6_burn 30 = .ok (.ireturn, 1) := by decide +kernel
theorem dX6_keeps_0 : decode cX6_keeps 0 = .ok (.iconst 0, 1) := by decide +kernel
theorem dX6_keeps_1 : decode cX6_keeps 1 = .ok (.istore_n 1, 1) := by decide +kernel
theorem dX6_keeps_2 : decode cX6_keeps 2 = .ok (.iload_n 1, 1) := by decide +kernel
theorem dX6_keeps_3 : decode cX6_keeps 3 = .ok (.bipush 18, 2) := by decide +kernel
theorem dX6_keeps_5 : decode cX6_keeps 5 = .ok (.if_icmp .ge 21, 3) := by decide +kernel
theorem dX6_keeps_8 : decode cX6_keeps 8 = .ok (.aload_n 0, 1) := by decide +kernel
theorem dX6_keeps_9 : decode cX6_keeps 9 = .ok (.getfield 67, 3) := by decide +kernel
theorem dX6_keeps_12 : decode cX6_keeps 12 = .ok (.iload_n 1, 1) := by decide +kernel
theorem dX6_keeps_13 : decode cX6_keeps 13 = .ok (.aload_n 0, 1) := by decide +kernel
theorem dX6_keeps_14 : decode cX6_keeps 14 = .ok (.getfield 16, 3) := by decide +kernel
theorem dX6_keeps_17 : decode cX6_keeps 17 = .ok (.iload_n 1, 1) := by decide +kernel
theorem dX6_keeps_18 : decode cX6_keeps 18 = .ok (.iaload, 1) := by decide +kernel
theorem dX6_keeps_19 : decode cX6_keeps 19 = .ok (.iastore, 1) := by decide +kernel
theorem dX6_keeps_20 : decode cX6_keeps 20 = .ok (.iinc 1 1, 3) := by decide +kernel
theorem dX6_keeps_23 : decode cX6_keeps 23 = .ok (.goto (-21), 3) := by decide +kernel
theorem dX6_keeps_26 : decode cX6_keeps 26 = .ok (.iconst 0, 1) := by decide +kernel
theorem dX6_keeps_27 : decode cX6_keeps 27 = .ok (.istore_n 1, 1) := by decide +kernel
theorem dX6_keeps_28 : decode cX6_keeps 28 = .ok (.iload_n 1, 1) := by decide +kernel
theorem dX6_keeps_29 : decode cX6_keeps 29 = .ok (.bipush 24, 2) := by decide +kernel
theorem dX6_keeps_31 : decode cX6_keeps 31 = .ok (.if_icmp .ge 24, 3) := by decide +kernel
theorem dX6_keeps_34 : decode cX6_keeps 34 = .ok (.aload_n 0, 1) := by decide +kernel
theorem dX6_keeps_35 : decode cX6_keeps 35 = .ok (.getfield 67, 3) := by decide +kernel
theorem dX6_keeps_38 : decode cX6_keeps 38 = .ok (.bipush 18, 2) := by decide +kernel
theorem dX6_keeps_40 : decode cX6_keeps 40 = .ok (.iload_n 1, 1) := by decide +kernel
theorem dX6_keeps_41 : decode cX6_keeps 41 = .ok (.iadd, 1) := by decide +kernel
theorem dX6_keeps_42 : decode cX6_keeps 42 = .ok (.aload_n 0, 1) := by decide +kernel
theorem dX6_keeps_43 : decode cX6_keeps 43 = .ok (.getfield 19, 3) := by decide +kernel
theorem dX6_keeps_46 : decode cX6_keeps 46 = .ok (.iload_n 1, 1) := by decide +kernel
theorem dX6_keeps_47 : decode cX6_keeps 47 = .ok (.iaload, 1) := by decide +kernel
theorem dX6_keeps_48 : decode cX6_keeps 48 = .ok (.iastore, 1) := by decide +kernel
theorem dX6_keeps_49 : decode cX6_keeps 49 = .ok (.iinc 1 1, 3) := by decide +kernel
theorem dX6_keeps_52 : decode cX6_keeps 52 = .ok (.goto (-24), 3) := by decide +kernel
theorem dX6_keeps_55 : decode cX6_keeps 55 = .ok (.aload_n 0, 1) := by decide +kernel
theorem dX6_keeps_56 : decode cX6_keeps 56 = .ok (.getfield 67, 3) := by decide +kernel
theorem dX6_keeps_59 : decode cX6_keeps 59 = .ok (.bipush 42, 2) := by decide +kernel
theorem dX6_keeps_61 : decode cX6_keeps 61 = .ok (.aload_n 0, 1) := by decide +kernel
theorem dX6_keeps_62 : decode cX6_keeps 62 = .ok (.getfield 109, 3) := by decide +kernel
theorem dX6_keeps_65 : decode cX6_keeps 65 = .ok (.iastore, 1) := by decide +kernel
theorem dX6_keeps_66 : decode cX6_keeps 66 = .ok (.aload_n 0, 1) := by decide +kernel
theorem dX6_keeps_67 : decode cX6_keeps 67 = .ok (.getfield 67, 3) := by decide +kernel
theorem dX6_keeps_70 : decode cX6_keeps 70 = .ok (.bipush 43, 2) := by decide +kernel
theorem dX6_keeps_72 : decode cX6_keeps 72 = .ok (.aload_n 0, 1) := by decide +kernel
theorem dX6_keeps_73 : decode cX6_keeps 73 = .ok (.getfield 93, 3) := by decide +kernel
theorem dX6_keeps_76 : decode cX6_keeps 76 = .ok (.iastore, 1) := by decide +kernel
theorem dX6_keeps_77 : decode cX6_keeps 77 = .ok (.return_, 1) := by decide +kernel
theorem dX6_lays_0 : decode cX6_lays 0 = .ok (.iconst 0, 1) := by decide +kernel
theorem dX6_lays_1 : decode cX6_lays 1 = .ok (.istore_n 1, 1) := by decide +kernel
theorem dX6_lays_2 : decode cX6_lays 2 = .ok (.iload_n 1, 1) := by decide +kernel
theorem dX6_lays_3 : decode cX6_lays 3 = .ok (.bipush 18, 2) := by decide +kernel
theorem dX6_lays_5 : decode cX6_lays 5 = .ok (.if_icmp .ge 21, 3) := by decide +kernel
theorem dX6_lays_8 : decode cX6_lays 8 = .ok (.aload_n 0, 1) := by decide +kernel
theorem dX6_lays_9 : decode cX6_lays 9 = .ok (.getfield 16, 3) := by decide +kernel
theorem dX6_lays_12 : decode cX6_lays 12 = .ok (.iload_n 1, 1) := by decide +kernel
theorem dX6_lays_13 : decode cX6_lays 13 = .ok (.aload_n 0, 1) := by decide +kernel
theorem dX6_lays_14 : decode cX6_lays 14 = .ok (.getfield 67, 3) := by decide +kernel
theorem dX6_lays_17 : decode cX6_lays 17 = .ok (.iload_n 1, 1) := by decide +kernel
theorem dX6_lays_18 : decode cX6_lays 18 = .ok (.iaload, 1) := by decide +kernel
theorem dX6_lays_19 : decode cX6_lays 19 = .ok (.iastore, 1) := by decide +kernel
theorem dX6_lays_20 : decode cX6_lays 20 = .ok (.iinc 1 1, 3) := by decide +kernel
theorem dX6_lays_23 : decode cX6_lays 23 = .ok (.goto (-21), 3) := by decide +kernel
theorem dX6_lays_26 : decode cX6_lays 26 = .ok (.iconst 0, 1) := by decide +kernel
theorem dX6_lays_27 : decode cX6_lays 27 = .ok (.istore_n 1, 1) := by decide +kernel
theorem dX6_lays_28 : decode cX6_lays 28 = .ok (.iload_n 1, 1) := by decide +kernel
theorem dX6_lays_29 : decode cX6_lays 29 = .ok (.bipush 24, 2) := by decide +kernel
theorem dX6_lays_31 : decode cX6_lays 31 = .ok (.if_icmp .ge 24, 3) := by decide +kernel
theorem dX6_lays_34 : decode cX6_lays 34 = .ok (.aload_n 0, 1) := by decide +kernel
theorem dX6_lays_35 : decode cX6_lays 35 = .ok (.getfield 19, 3) := by decide +kernel
theorem dX6_lays_38 : decode cX6_lays 38 = .ok (.iload_n 1, 1) := by decide +kernel
theorem dX6_lays_39 : decode cX6_lays 39 = .ok (.aload_n 0, 1) := by decide +kernel
theorem dX6_lays_40 : decode cX6_lays 40 = .ok (.getfield 67, 3) := by decide +kernel
theorem dX6_lays_43 : decode cX6_lays 43 = .ok (.bipush 18, 2) := by decide +kernel
theorem dX6_lays_45 : decode cX6_lays 45 = .ok (.iload_n 1, 1) := by decide +kernel
theorem dX6_lays_46 : decode cX6_lays 46 = .ok (.iadd, 1) := by decide +kernel
theorem dX6_lays_47 : decode cX6_lays 47 = .ok (.iaload, 1) := by decide +kernel
theorem dX6_lays_48 : decode cX6_lays 48 = .ok (.iastore, 1) := by decide +kernel
theorem dX6_lays_49 : decode cX6_lays 49 = .ok (.iinc 1 1, 3) := by decide +kernel
theorem dX6_lays_52 : decode cX6_lays 52 = .ok (.goto (-24), 3) := by decide +kernel
theorem dX6_lays_55 : decode cX6_lays 55 = .ok (.aload_n 0, 1) := by decide +kernel
theorem dX6_lays_56 : decode cX6_lays 56 = .ok (.aload_n 0, 1) := by decide +kernel
theorem dX6_lays_57 : decode cX6_lays 57 = .ok (.getfield 67, 3) := by decide +kernel
theorem dX6_lays_60 : decode cX6_lays 60 = .ok (.bipush 42, 2) := by decide +kernel
theorem dX6_lays_62 : decode cX6_lays 62 = .ok (.iaload, 1) := by decide +kernel
theorem dX6_lays_63 : decode cX6_lays 63 = .ok (.putfield 109, 3) := by decide +kernel
theorem dX6_lays_66 : decode cX6_lays 66 = .ok (.aload_n 0, 1) := by decide +kernel
theorem dX6_lays_67 : decode cX6_lays 67 = .ok (.aload_n 0, 1) := by decide +kernel
theorem dX6_lays_68 : decode cX6_lays 68 = .ok (.getfield 67, 3) := by decide +kernel
theorem dX6_lays_71 : decode cX6_lays 71 = .ok (.bipush 43, 2) := by decide +kernel
theorem dX6_lays_73 : decode cX6_lays 73 = .ok (.iaload, 1) := by decide +kernel
theorem dX6_lays_74 : decode cX6_lays 74 = .ok (.putfield 93, 3) := by decide +kernel
theorem dX6_lays_77 : decode cX6_lays 77 = .ok (.return_, 1) := by decide +kernel
set_option maxRecDepth 20000 in
theorem ggX6_goes_X6_hourOf : GoodIn wsX6_goes wsX6_hourOf := goodIn_r _ [5, 6, 7, 8, 9, 10, 11, 12, 4, 13, 14, 15, 16, 17, 18, 19, 20, 21, 22, 23, 24, 25, 26, 27, 28, 29, 30, 31, 32, 33, 34, 35, 36, 37, 38, 39, 40, 41, 42, 43, 44, 45, 46, 47, 48, 49, 50, 51, 52, 53, 54, 55, 56, 57, 58, 59, 60, 61, 62, 63, 64, 65, 66, 67, 68, 69, 70, 71, 72, 73, 74, 75, 76, 77, 78, 79, 80, 81, 82, 83, 84, 85, 86, 87, 88, 89, 90, 91, 92] rfl (by decide +kernel)
set_option maxRecDepth 20000 in
theorem gX6_goes_X6_hourOf : GoodIn wsX6_goes (wsV RX6 213 RX6 yX6_hourOf wsX6_hourOf) := goodIn_app (goodIn_of _ (by decide +kernel)) ggX6_goes_X6_hourOf
theorem dX6_goes_0 : decode cX6_goes 0 = .ok (.iconst 0, 1) := by decide +kernel
theorem dX6_goes_1 : decode cX6_goes 1 = .ok (.istore_n 2, 1) := by decide +kernel
theorem dX6_goes_2 : decode cX6_goes 2 = .ok (.iload_n 2, 1) := by decide +kernel
theorem dX6_goes_3 : decode cX6_goes 3 = .ok (.iload_n 1, 1) := by decide +kernel
theorem dX6_goes_4 : decode cX6_goes 4 = .ok (.if_icmp .ge 14, 3) := by decide +kernel
theorem dX6_goes_7 : decode cX6_goes 7 = .ok (.aload_n 0, 1) := by decide +kernel
theorem dX6_goes_8 : decode cX6_goes 8 = .ok (.invokevirtual 213, 3) := by decide +kernel
theorem dX6_goes_11 : decode cX6_goes 11 = .ok (.pop, 1) := by decide +kernel
theorem dX6_goes_12 : decode cX6_goes 12 = .ok (.iinc 2 1, 3) := by decide +kernel
theorem dX6_goes_15 : decode cX6_goes 15 = .ok (.goto (-13), 3) := by decide +kernel
theorem dX6_goes_18 : decode cX6_goes 18 = .ok (.return_, 1) := by decide +kernel
set_option maxRecDepth 20000 in
theorem ggX6_run_X6_in : GoodIn wsX6_run wsX6_in := goodIn_r _ [7] rfl (by decide +kernel)
set_option maxRecDepth 20000 in
theorem gX6_run_X6_in : GoodIn wsX6_run (va_wsS RX6 81 yX6_in wsX6_in) := goodIn_app (goodIn_of _ (by decide +kernel)) ggX6_run_X6_in
set_option maxRecDepth 20000 in
theorem ggX6_run_X6_keeps : GoodIn wsX6_run wsX6_keeps := goodIn_r _ [11, 12, 3, 13, 2, 14, 74, 75, 76, 77, 78, 79, 80, 81, 82, 83, 84, 85, 86, 87, 88, 89, 90, 91, 92, 93, 94, 95, 96, 97, 98, 99, 100, 101, 102, 103, 104, 105, 106, 107, 108, 109, 110, 111] rfl (by decide +kernel)
set_option maxRecDepth 20000 in
theorem gX6_run_X6_keeps : GoodIn wsX6_run (wsV RX6 216 RX6 yX6_keeps wsX6_keeps) := goodIn_app (goodIn_of _ (by decide +kernel)) ggX6_run_X6_keeps
set_option maxRecDepth 20000 in
theorem ggX6_run_X6_goes : GoodIn wsX6_run wsX6_goes := goodIn_r _ [18, 19, 20, 21, 6, 22, 14, 13, 2, 3, 23, 24, 25, 26, 4, 5, 7, 27, 28, 29, 30, 31, 32, 33, 34, 35, 36, 37, 38, 39, 40, 41, 42, 43, 44, 45, 46, 47, 48, 49, 50, 51, 52, 53, 54, 55, 56, 57, 58, 59, 60, 61, 62, 63, 64, 74, 75, 76, 77, 78, 79, 80, 81, 82, 83, 84, 85, 86, 87, 88, 89, 90, 91, 92, 93, 94, 95, 96, 97, 98, 99, 100, 101, 102, 103, 104, 105, 106, 107, 108, 109, 110, 111] rfl (by decide +kernel)
set_option maxRecDepth 20000 in
theorem gX6_run_X6_goes : GoodIn wsX6_run (wsV RX6 219 RX6 yX6_goes wsX6_goes) := goodIn_app (goodIn_of _ (by decide +kernel)) ggX6_run_X6_goes
set_option maxRecDepth 20000 in
theorem ggX6_run_X6_verdictOf : GoodIn wsX6_run wsX6_verdictOf := goodIn_r _ [68, 69, 74, 75, 76, 77, 78, 79, 80, 81, 82, 83, 84, 85, 86, 87, 88, 89, 90, 91, 92, 93, 94, 95, 96, 97, 98, 99, 100, 101, 102, 103, 104, 105, 106, 107, 108, 109, 110, 111] rfl (by decide +kernel)
set_option maxRecDepth 20000 in
theorem gX6_run_X6_verdictOf : GoodIn wsX6_run (wsV RX6 112 RX6 yX6_verdictOf wsX6_verdictOf) := goodIn_app (goodIn_of _ (by decide +kernel)) ggX6_run_X6_verdictOf
set_option maxRecDepth 20000 in
theorem ggX6_run_X6_lying : GoodIn wsX6_run wsX6_lying := goodIn_r _ [52, 23, 24, 25, 6, 26, 13, 4, 5, 7, 27, 28, 29, 74, 75, 76, 77, 78, 79, 80, 81, 82, 83, 84, 85, 86, 87, 88, 89, 90, 91, 92, 93, 94, 95, 96, 97, 98, 99, 100, 101, 102, 103, 104, 105, 106, 107, 108, 109, 110, 111] rfl (by decide +kernel)
set_option maxRecDepth 20000 in
theorem gX6_run_X6_lying : GoodIn wsX6_run (wsV RX6 96 RX6 yX6_lying wsX6_lying) := goodIn_app (goodIn_of _ (by decide +kernel)) ggX6_run_X6_lying
set_option maxRecDepth 20000 in
theorem ggX6_run_X6_lays : GoodIn wsX6_run wsX6_lays := goodIn_r _ [73, 3, 12, 13, 2, 14, 74, 75, 76, 77, 78, 79, 80, 81, 82, 83, 84, 85, 86, 87, 88, 89, 90, 91, 92, 93, 94, 95, 96, 97, 98, 99, 100, 101, 102, 103, 104, 105, 106, 107, 108, 109, 110, 111] rfl (by decide +kernel)
set_option maxRecDepth 20000 in
theorem gX6_run_X6_lays : GoodIn wsX6_run (wsV RX6 222 RX6 yX6_lays wsX6_lays) := goodIn_app (goodIn_of _ (by decide +kernel)) ggX6_run_X6_lays
theorem dX6_run_0 : decode cX6_run 0 = .ok (.iload_n 1, 1) := by decide +kernel
theorem dX6_run_1 : decode cX6_run 1 = .ok (.iconst 0, 1) := by decide +kernel
theorem dX6_run_2 : decode cX6_run 2 = .ok (.bipush 40, 2) := by decide +kernel
theorem dX6_run_4 : decode cX6_run 4 = .ok (.invokestatic 81, 3) := by decide +kernel
theorem dX6_run_7 : decode cX6_run 7 = .ok (.ifCond .eq 28, 3) := by decide +kernel
theorem dX6_run_10 : decode cX6_run 10 = .ok (.iload_n 2, 1) := by decide +kernel
theorem dX6_run_11 : decode cX6_run 11 = .ok (.iconst 0, 1) := by decide +kernel
theorem dX6_run_12 : decode cX6_run 12 = .ok (.iconst 2, 1) := by decide +kernel
theorem dX6_run_13 : decode cX6_run 13 = .ok (.invokestatic 81, 3) := by decide +kernel
theorem dX6_run_16 : decode cX6_run 16 = .ok (.ifCond .ne 23, 3) := by decide +kernel
theorem dX6_run_19 : decode cX6_run 19 = .ok (.iload_n 2, 1) := by decide +kernel
theorem dX6_run_20 : decode cX6_run 20 = .ok (.bipush 10, 2) := by decide +kernel
theorem dX6_run_22 : decode cX6_run 22 = .ok (.bipush 9, 2) := by decide +kernel
theorem dX6_run_24 : decode cX6_run 24 = .ok (.aload_n 0, 1) := by decide +kernel
theorem dX6_run_25 : decode cX6_run 25 = .ok (.getfield 78, 3) := by decide +kernel
theorem dX6_run_28 : decode cX6_run 28 = .ok (.iadd, 1) := by decide +kernel
theorem dX6_run_29 : decode cX6_run 29 = .ok (.invokestatic 81, 3) := by decide +kernel
theorem dX6_run_32 : decode cX6_run 32 = .ok (.ifCond .ne 7, 3) := by decide +kernel
theorem dX6_run_35 : decode cX6_run 35 = .ok (.sipush (-5000), 3) := by decide +kernel
theorem dX6_run_38 : decode cX6_run 38 = .ok (.ireturn, 1) := by decide +kernel
theorem dX6_run_39 : decode cX6_run 39 = .ok (.aload_n 0, 1) := by decide +kernel
theorem dX6_run_40 : decode cX6_run 40 = .ok (.invokevirtual 216, 3) := by decide +kernel
theorem dX6_run_43 : decode cX6_run 43 = .ok (.aload_n 0, 1) := by decide +kernel
theorem dX6_run_44 : decode cX6_run 44 = .ok (.iload_n 1, 1) := by decide +kernel
theorem dX6_run_45 : decode cX6_run 45 = .ok (.invokevirtual 219, 3) := by decide +kernel
theorem dX6_run_48 : decode cX6_run 48 = .ok (.iconst 0, 1) := by decide +kernel
theorem dX6_run_49 : decode cX6_run 49 = .ok (.istore_n 3, 1) := by decide +kernel
theorem dX6_run_50 : decode cX6_run 50 = .ok (.iload_n 2, 1) := by decide +kernel
theorem dX6_run_51 : decode cX6_run 51 = .ok (.iconst 3, 1) := by decide +kernel
theorem dX6_run_52 : decode cX6_run 52 = .ok (.if_icmp .ge 38, 3) := by decide +kernel
theorem dX6_run_55 : decode cX6_run 55 = .ok (.iload_n 2, 1) := by decide +kernel
theorem dX6_run_56 : decode cX6_run 56 = .ok (.ifCond .ne 10, 3) := by decide +kernel
theorem dX6_run_59 : decode cX6_run 59 = .ok (.aload_n 0, 1) := by decide +kernel
theorem dX6_run_60 : decode cX6_run 60 = .ok (.getfield 109, 3) := by decide +kernel
theorem dX6_run_63 : decode cX6_run 63 = .ok (.goto 23, 3) := by decide +kernel
theorem dX6_run_66 : decode cX6_run 66 = .ok (.iload_n 2, 1) := by decide +kernel
theorem dX6_run_67 : decode cX6_run 67 = .ok (.iconst 1, 1) := by decide +kernel
theorem dX6_run_68 : decode cX6_run 68 = .ok (.if_icmp .ne 14, 3) := by decide +kernel
theorem dX6_run_71 : decode cX6_run 71 = .ok (.aload_n 0, 1) := by decide +kernel
theorem dX6_run_72 : decode cX6_run 72 = .ok (.aload_n 0, 1) := by decide +kernel
theorem dX6_run_73 : decode cX6_run 73 = .ok (.getfield 109, 3) := by decide +kernel
theorem dX6_run_76 : decode cX6_run 76 = .ok (.invokevirtual 112, 3) := by decide +kernel
theorem dX6_run_79 : decode cX6_run 79 = .ok (.goto 7, 3) := by decide +kernel
theorem dX6_run_82 : decode cX6_run 82 = .ok (.aload_n 0, 1) := by decide +kernel
theorem dX6_run_83 : decode cX6_run 83 = .ok (.invokevirtual 96, 3) := by decide +kernel
theorem dX6_run_86 : decode cX6_run 86 = .ok (.istore_n 3, 1) := by decide +kernel
theorem dX6_run_87 : decode cX6_run 87 = .ok (.goto 17, 3) := by decide +kernel
theorem dX6_run_90 : decode cX6_run 90 = .ok (.aload_n 0, 1) := by decide +kernel
theorem dX6_run_91 : decode cX6_run 91 = .ok (.getfield 16, 3) := by decide +kernel
theorem dX6_run_94 : decode cX6_run 94 = .ok (.iconst 3, 1) := by decide +kernel
theorem dX6_run_95 : decode cX6_run 95 = .ok (.iload_n 2, 1) := by decide +kernel
theorem dX6_run_96 : decode cX6_run 96 = .ok (.bipush 10, 2) := by decide +kernel
theorem dX6_run_98 : decode cX6_run 98 = .ok (.isub, 1) := by decide +kernel
theorem dX6_run_99 : decode cX6_run 99 = .ok (.imul, 1) := by decide +kernel
theorem dX6_run_100 : decode cX6_run 100 = .ok (.iconst 2, 1) := by decide +kernel
theorem dX6_run_101 : decode cX6_run 101 = .ok (.iadd, 1) := by decide +kernel
theorem dX6_run_102 : decode cX6_run 102 = .ok (.iaload, 1) := by decide +kernel
theorem dX6_run_103 : decode cX6_run 103 = .ok (.istore_n 3, 1) := by decide +kernel
theorem dX6_run_104 : decode cX6_run 104 = .ok (.aload_n 0, 1) := by decide +kernel
theorem dX6_run_105 : decode cX6_run 105 = .ok (.invokevirtual 222, 3) := by decide +kernel
theorem dX6_run_108 : decode cX6_run 108 = .ok (.iload_n 3, 1) := by decide +kernel
theorem dX6_run_109 : decode cX6_run 109 = .ok (.ireturn, 1) := by decide +kernel
set_option maxRecDepth 20000 in
theorem ggX6_when_X6_in : GoodIn wsX6_when wsX6_in := goodIn_r _ [5] rfl (by decide +kernel)
set_option maxRecDepth 20000 in
theorem gX6_when_X6_in : GoodIn wsX6_when (va_wsS RX6 81 yX6_in wsX6_in) := goodIn_app (goodIn_of _ (by decide +kernel)) ggX6_when_X6_in
set_option maxRecDepth 20000 in
theorem ggX6_when_X6_keeps : GoodIn wsX6_when wsX6_keeps := goodIn_r _ [9, 10, 11, 12, 1, 13, 64, 65, 66, 67, 68, 69, 70, 71, 72, 73, 74, 75, 76, 77, 78, 79, 80, 81, 82, 83, 84, 85, 86, 87, 88, 89, 90, 91, 92, 93, 94, 95, 96, 97, 98, 99, 100, 101] rfl (by decide +kernel)
set_option maxRecDepth 20000 in
theorem gX6_when_X6_keeps : GoodIn wsX6_when (wsV RX6 216 RX6 yX6_keeps wsX6_keeps) := goodIn_app (goodIn_of _ (by decide +kernel)) ggX6_when_X6_keeps

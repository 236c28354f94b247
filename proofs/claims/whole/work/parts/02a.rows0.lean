set_option maxRecDepth 20000 in
theorem ggX0_init_J7_fill_53178 : GoodIn wsX0_init wsJ7_fill_53178 := goodIn_r _ [20] (by decide +kernel) (by decide +kernel)
set_option maxRecDepth 20000 in
theorem gX0_init_J7_fill_53178 : GoodIn wsX0_init (va_wsS RX0 49 yJ7_fill_53178 wsJ7_fill_53178) := goodIn_app (goodIn_of _ (by decide +kernel)) ggX0_init_J7_fill_53178
theorem dX0_init_0 : decode cX0_init 0 = .ok (.aload_n 0, 1) := by decide +kernel
theorem dX0_init_1 : decode cX0_init 1 = .ok (.invokespecial 3, 3) := by decide +kernel
theorem dX0_init_4 : decode cX0_init 4 = .ok (.aload_n 0, 1) := by decide +kernel
theorem dX0_init_5 : decode cX0_init 5 = .ok (.bipush 10, 2) := by decide +kernel
theorem dX0_init_7 : decode cX0_init 7 = .ok (.newarray .int, 2) := by decide +kernel
theorem dX0_init_9 : decode cX0_init 9 = .ok (.putfield 9, 3) := by decide +kernel
theorem dX0_init_12 : decode cX0_init 12 = .ok (.aload_n 0, 1) := by decide +kernel
theorem dX0_init_13 : decode cX0_init 13 = .ok (.bipush 6, 2) := by decide +kernel
theorem dX0_init_15 : decode cX0_init 15 = .ok (.newarray .int, 2) := by decide +kernel
theorem dX0_init_17 : decode cX0_init 17 = .ok (.putfield 15, 3) := by decide +kernel
theorem dX0_init_20 : decode cX0_init 20 = .ok (.aload_n 0, 1) := by decide +kernel
theorem dX0_init_21 : decode cX0_init 21 = .ok (.bipush 6, 2) := by decide +kernel
theorem dX0_init_23 : decode cX0_init 23 = .ok (.newarray .int, 2) := by decide +kernel
theorem dX0_init_25 : decode cX0_init 25 = .ok (.putfield 18, 3) := by decide +kernel
theorem dX0_init_28 : decode cX0_init 28 = .ok (.aload_n 0, 1) := by decide +kernel
theorem dX0_init_29 : decode cX0_init 29 = .ok (.bipush 6, 2) := by decide +kernel
theorem dX0_init_31 : decode cX0_init 31 = .ok (.newarray .int, 2) := by decide +kernel
theorem dX0_init_33 : decode cX0_init 33 = .ok (.putfield 21, 3) := by decide +kernel
theorem dX0_init_36 : decode cX0_init 36 = .ok (.aload_n 0, 1) := by decide +kernel
theorem dX0_init_37 : decode cX0_init 37 = .ok (.bipush 6, 2) := by decide +kernel
theorem dX0_init_39 : decode cX0_init 39 = .ok (.newarray .int, 2) := by decide +kernel
theorem dX0_init_41 : decode cX0_init 41 = .ok (.putfield 24, 3) := by decide +kernel
theorem dX0_init_44 : decode cX0_init 44 = .ok (.aload_n 0, 1) := by decide +kernel
theorem dX0_init_45 : decode cX0_init 45 = .ok (.bipush 6, 2) := by decide +kernel
theorem dX0_init_47 : decode cX0_init 47 = .ok (.newarray .int, 2) := by decide +kernel
theorem dX0_init_49 : decode cX0_init 49 = .ok (.putfield 27, 3) := by decide +kernel
theorem dX0_init_52 : decode cX0_init 52 = .ok (.aload_n 0, 1) := by decide +kernel
theorem dX0_init_53 : decode cX0_init 53 = .ok (.bipush 6, 2) := by decide +kernel
theorem dX0_init_55 : decode cX0_init 55 = .ok (.newarray .int, 2) := by decide +kernel
theorem dX0_init_57 : decode cX0_init 57 = .ok (.putfield 30, 3) := by decide +kernel
theorem dX0_init_60 : decode cX0_init 60 = .ok (.aload_n 0, 1) := by decide +kernel
theorem dX0_init_61 : decode cX0_init 61 = .ok (.bipush 8, 2) := by decide +kernel
theorem dX0_init_63 : decode cX0_init 63 = .ok (.newarray .int, 2) := by decide +kernel
theorem dX0_init_65 : decode cX0_init 65 = .ok (.putfield 33, 3) := by decide +kernel
theorem dX0_init_68 : decode cX0_init 68 = .ok (.aload_n 0, 1) := by decide +kernel
theorem dX0_init_69 : decode cX0_init 69 = .ok (.bipush 8, 2) := by decide +kernel
theorem dX0_init_71 : decode cX0_init 71 = .ok (.newarray .int, 2) := by decide +kernel
theorem dX0_init_73 : decode cX0_init 73 = .ok (.putfield 36, 3) := by decide +kernel
theorem dX0_init_76 : decode cX0_init 76 = .ok (.aload_n 0, 1) := by decide +kernel
theorem dX0_init_77 : decode cX0_init 77 = .ok (.bipush 8, 2) := by decide +kernel
theorem dX0_init_79 : decode cX0_init 79 = .ok (.newarray .int, 2) := by decide +kernel
theorem dX0_init_81 : decode cX0_init 81 = .ok (.putfield 39, 3) := by decide +kernel
theorem dX0_init_84 : decode cX0_init 84 = .ok (.aload_n 0, 1) := by decide +kernel
theorem dX0_init_85 : decode cX0_init 85 = .ok (.aload_n 1, 1) := by decide +kernel
theorem dX0_init_86 : decode cX0_init 86 = .ok (.putfield 42, 3) := by decide +kernel
theorem dX0_init_89 : decode cX0_init 89 = .ok (.aload_n 0, 1) := by decide +kernel
theorem dX0_init_90 : decode cX0_init 90 = .ok (.aload_n 2, 1) := by decide +kernel
theorem dX0_init_91 : decode cX0_init 91 = .ok (.putfield 46, 3) := by decide +kernel
theorem dX0_init_94 : decode cX0_init 94 = .ok (.aload_n 0, 1) := by decide +kernel
theorem dX0_init_95 : decode cX0_init 95 = .ok (.getfield 15, 3) := by decide +kernel
theorem dX0_init_98 : decode cX0_init 98 = .ok (.bipush 50, 2) := by decide +kernel
theorem dX0_init_100 : decode cX0_init 100 = .ok (.invokestatic 49, 3) := by decide +kernel
theorem dX0_init_103 : decode cX0_init 103 = .ok (.aload_n 0, 1) := by decide +kernel
theorem dX0_init_104 : decode cX0_init 104 = .ok (.getfield 33, 3) := by decide +kernel
theorem dX0_init_107 : decode cX0_init 107 = .ok (.iconst (-1), 1) := by decide +kernel
theorem dX0_init_108 : decode cX0_init 108 = .ok (.invokestatic 49, 3) := by decide +kernel
theorem dX0_init_111 : decode cX0_init 111 = .ok (.return_, 1) := by decide +kernel
theorem dX0_become_0 : decode cX0_become 0 = .ok (.aload_n 1, 1) := by decide +kernel
theorem dX0_become_1 : decode cX0_become 1 = .ok (.getfield 9, 3) := by decide +kernel
theorem dX0_become_4 : decode cX0_become 4 = .ok (.iconst 0, 1) := by decide +kernel
theorem dX0_become_5 : decode cX0_become 5 = .ok (.aload_n 0, 1) := by decide +kernel
theorem dX0_become_6 : decode cX0_become 6 = .ok (.getfield 9, 3) := by decide +kernel
theorem dX0_become_9 : decode cX0_become 9 = .ok (.iconst 0, 1) := by decide +kernel
theorem dX0_become_10 : decode cX0_become 10 = .ok (.bipush 10, 2) := by decide +kernel
theorem dX0_become_12 : decode cX0_become 12 = .ok (.invokestatic 55, 3) := by decide +kernel
theorem dX0_become_15 : decode cX0_become 15 = .ok (.aload_n 1, 1) := by decide +kernel
theorem dX0_become_16 : decode cX0_become 16 = .ok (.getfield 15, 3) := by decide +kernel
theorem dX0_become_19 : decode cX0_become 19 = .ok (.iconst 0, 1) := by decide +kernel
theorem dX0_become_20 : decode cX0_become 20 = .ok (.aload_n 0, 1) := by decide +kernel
theorem dX0_become_21 : decode cX0_become 21 = .ok (.getfield 15, 3) := by decide +kernel
theorem dX0_become_24 : decode cX0_become 24 = .ok (.iconst 0, 1) := by decide +kernel
theorem dX0_become_25 : decode cX0_become 25 = .ok (.bipush 6, 2) := by decide +kernel
theorem dX0_become_27 : decode cX0_become 27 = .ok (.invokestatic 55, 3) := by decide +kernel
theorem dX0_become_30 : decode cX0_become 30 = .ok (.aload_n 1, 1) := by decide +kernel
theorem dX0_become_31 : decode cX0_become 31 = .ok (.getfield 18, 3) := by decide +kernel
theorem dX0_become_34 : decode cX0_become 34 = .ok (.iconst 0, 1) := by decide +kernel
theorem dX0_become_35 : decode cX0_become 35 = .ok (.aload_n 0, 1) := by decide +kernel
theorem dX0_become_36 : decode cX0_become 36 = .ok (.getfield 18, 3) := by decide +kernel
theorem dX0_become_39 : decode cX0_become 39 = .ok (.iconst 0, 1) := by decide +kernel
theorem dX0_become_40 : decode cX0_become 40 = .ok (.bipush 6, 2) := by decide +kernel
theorem dX0_become_42 : decode cX0_become 42 = .ok (.invokestatic 55, 3) := by decide +kernel
theorem dX0_become_45 : decode cX0_become 45 = .ok (.aload_n 1, 1) := by decide +kernel
theorem dX0_become_46 : decode cX0_become 46 = .ok (.getfield 21, 3) := by decide +kernel
theorem dX0_become_49 : decode cX0_become 49 = .ok (.iconst 0, 1) := by decide +kernel
theorem dX0_become_50 : decode cX0_become 50 = .ok (.aload_n 0, 1) := by decide +kernel
theorem dX0_become_51 : decode cX0_become 51 = .ok (.getfield 21, 3) := by decide +kernel
theorem dX0_become_54 : decode cX0_become 54 = .ok (.iconst 0, 1) := by decide +kernel
theorem dX0_become_55 : decode cX0_become 55 = .ok (.bipush 6, 2) := by decide +kernel
theorem dX0_become_57 : decode cX0_become 57 = .ok (.invokestatic 55, 3) := by decide +kernel
theorem dX0_become_60 : decode cX0_become 60 = .ok (.aload_n 1, 1) := by decide +kernel
theorem dX0_become_61 : decode cX0_become 61 = .ok (.getfield 24, 3) := by decide +kernel
theorem dX0_become_64 : decode cX0_become 64 = .ok (.iconst 0, 1) := by decide +kernel
theorem dX0_become_65 : decode cX0_become 65 = .ok (.aload_n 0, 1) := by decide +kernel
theorem dX0_become_66 : decode cX0_become 66 = .ok (.getfield 24, 3) := by decide +kernel
theorem dX0_become_69 : decode cX0_become 69 = .ok (.iconst 0, 1) := by decide +kernel
theorem dX0_become_70 : decode cX0_become 70 = .ok (.bipush 6, 2) := by decide +kernel
theorem dX0_become_72 : decode cX0_become 72 = .ok (.invokestatic 55, 3) := by decide +kernel
theorem dX0_become_75 : decode cX0_become 75 = .ok (.aload_n 1, 1) := by decide +kernel
theorem dX0_become_76 : decode cX0_become 76 = .ok (.getfield 27, 3) := by decide +kernel
theorem dX0_become_79 : decode cX0_become 79 = .ok (.iconst 0, 1) := by decide +kernel
theorem dX0_become_80 : decode cX0_become 80 = .ok (.aload_n 0, 1) := by decide +kernel
theorem dX0_become_81 : decode cX0_become 81 = .ok (.getfield 27, 3) := by decide +kernel
theorem dX0_become_84 : decode cX0_become 84 = .ok (.iconst 0, 1) := by decide +kernel
theorem dX0_become_85 : decode cX0_become 85 = .ok (.bipush 6, 2) := by decide +kernel
theorem dX0_become_87 : decode cX0_become 87 = .ok (.invokestatic 55, 3) := by decide +kernel
theorem dX0_become_90 : decode cX0_become 90 = .ok (.aload_n 1, 1) := by decide +kernel
theorem dX0_become_91 : decode cX0_become 91 = .ok (.getfield 30, 3) := by decide +kernel
theorem dX0_become_94 : decode cX0_become 94 = .ok (.iconst 0, 1) := by decide +kernel
theorem dX0_become_95 : decode cX0_become 95 = .ok (.aload_n 0, 1) := by decide +kernel
theorem dX0_become_96 : decode cX0_become 96 = .ok (.getfield 30, 3) := by decide +kernel
theorem dX0_become_99 : decode cX0_become 99 = .ok (.iconst 0, 1) := by decide +kernel
theorem dX0_become_100 : decode cX0_become 100 = .ok (.bipush 6, 2) := by decide +kernel
theorem dX0_become_102 : decode cX0_become 102 = .ok (.invokestatic 55, 3) := by decide +kernel
theorem dX0_become_105 : decode cX0_become 105 = .ok (.aload_n 1, 1) := by decide +kernel
theorem dX0_become_106 : decode cX0_become 106 = .ok (.getfield 33, 3) := by decide +kernel
theorem dX0_become_109 : decode cX0_become 109 = .ok (.iconst 0, 1) := by decide +kernel
theorem dX0_become_110 : decode cX0_become 110 = .ok (.aload_n 0, 1) := by decide +kernel
theorem dX0_become_111 : decode cX0_become 111 = .ok (.getfield 33, 3) := by decide +kernel
theorem dX0_become_114 : decode cX0_become 114 = .ok (.iconst 0, 1) := by decide +kernel
theorem dX0_become_115 : decode cX0_become 115 = .ok (.bipush 8, 2) := by decide +kernel
theorem dX0_become_117 : decode cX0_become 117 = .ok (.invokestatic 55, 3) := by decide +kernel
theorem dX0_become_120 : decode cX0_become 120 = .ok (.aload_n 1, 1) := by decide +kernel
theorem dX0_become_121 : decode cX0_become 121 = .ok (.getfield 36, 3) := by decide +kernel
theorem dX0_become_124 : decode cX0_become 124 = .ok (.iconst 0, 1) := by decide +kernel
theorem dX0_become_125 : decode cX0_become 125 = .ok (.aload_n 0, 1) := by decide +kernel
theorem dX0_become_126 : decode cX0_become 126 = .ok (.getfield 36, 3) := by decide +kernel
theorem dX0_become_129 : decode cX0_become 129 = .ok (.iconst 0, 1) := by decide +kernel
theorem dX0_become_130 : decode cX0_become 130 = .ok (.bipush 8, 2) := by decide +kernel
theorem dX0_become_132 : decode cX0_become 132 = .ok (.invokestatic 55, 3) := by decide +kernel
theorem dX0_become_135 : decode cX0_become 135 = .ok (.aload_n 1, 1) := by decide +kernel
theorem dX0_become_136 : decode cX0_become 136 = .ok (.getfield 39, 3) := by decide +kernel
theorem dX0_become_139 : decode cX0_become 139 = .ok (.iconst 0, 1) := by decide +kernel
theorem dX0_become_140 : decode cX0_become 140 = .ok (.aload_n 0, 1) := by decide +kernel
theorem dX0_become_141 : decode cX0_become 141 = .ok (.getfield 39, 3) := by decide +kernel
theorem dX0_become_144 : decode cX0_become 144 = .ok (.iconst 0, 1) := by decide +kernel
theorem dX0_become_145 : decode cX0_become 145 = .ok (.bipush 8, 2) := by decide +kernel
theorem dX0_become_147 : decode cX0_become 147 = .ok (.invokestatic 55, 3) := by decide +kernel
theorem dX0_become_150 : decode cX0_become 150 = .ok (.aload_n 0, 1) := by decide +kernel
theorem dX0_become_151 : decode cX0_become 151 = .ok (.aload_n 1, 1) := by decide +kernel
theorem dX0_become_152 : decode cX0_become 152 = .ok (.getfield 61, 3) := by decide +kernel
theorem dX0_become_155 : decode cX0_become 155 = .ok (.putfield 61, 3) := by decide +kernel
theorem dX0_become_158 : decode cX0_become 158 = .ok (.aload_n 0, 1) := by decide +kernel
theorem dX0_become_159 : decode cX0_become 159 = .ok (.aload_n 1, 1) := by decide +kernel
theorem dX0_become_160 : decode cX0_become 160 = .ok (.getfield 65, 3) := by decide +kernel
theorem dX0_become_163 : decode cX0_become 163 = .ok (.putfield 65, 3) := by decide +kernel
theorem dX0_become_166 : decode cX0_become 166 = .ok (.aload_n 0, 1) := by decide +kernel
theorem dX0_become_167 : decode cX0_become 167 = .ok (.aload_n 1, 1) := by decide +kernel
theorem dX0_become_168 : decode cX0_become 168 = .ok (.getfield 68, 3) := by decide +kernel
theorem dX0_become_171 : decode cX0_become 171 = .ok (.putfield 68, 3) := by decide +kernel
theorem dX0_become_174 : decode cX0_become 174 = .ok (.aload_n 0, 1) := by decide +kernel
theorem dX0_become_175 : decode cX0_become 175 = .ok (.aload_n 1, 1) := by decide +kernel
theorem dX0_become_176 : decode cX0_become 176 = .ok (.getfield 42, 3) := by decide +kernel
theorem dX0_become_179 : decode cX0_become 179 = .ok (.putfield 42, 3) := by decide +kernel
theorem dX0_become_182 : decode cX0_become 182 = .ok (.return_, 1) := by decide +kernel
set_option maxRecDepth 20000 in
theorem ggX0_hasWitness_X5_isBelow : GoodIn wsX0_hasWitness wsX5_isBelow := goodIn_r _ [4] (by decide +kernel) (by decide +kernel)
set_option maxRecDepth 20000 in
theorem gX0_hasWitness_X5_isBelow_n71 : GoodIn wsX0_hasWitness (wsX5_isBelow) := ggX0_hasWitness_X5_isBelow
theorem dX0_hasWitness_0 : decode cX0_hasWitness 0 = .ok (.iload_n 1, 1) := by decide +kernel
theorem dX0_hasWitness_1 : decode cX0_hasWitness 1 = .ok (.aload_n 0, 1) := by decide +kernel
theorem dX0_hasWitness_2 : decode cX0_hasWitness 2 = .ok (.getfield 68, 3) := by decide +kernel
theorem dX0_hasWitness_5 : decode cX0_hasWitness 5 = .ok (.invokestatic 71, 3) := by decide +kernel
theorem dX0_hasWitness_8 : decode cX0_hasWitness 8 = .ok (.ireturn, 1) := by decide +kernel
theorem dX0_welcome_0 : decode cX0_welcome 0 = .ok (.aload_n 0, 1) := by decide +kernel
theorem dX0_welcome_1 : decode cX0_welcome 1 = .ok (.getfield 68, 3) := by decide +kernel
theorem dX0_welcome_4 : decode cX0_welcome 4 = .ok (.istore 4, 2) := by decide +kernel
theorem dX0_welcome_6 : decode cX0_welcome 6 = .ok (.aload_n 0, 1) := by decide +kernel
theorem dX0_welcome_7 : decode cX0_welcome 7 = .ok (.getfield 18, 3) := by decide +kernel
theorem dX0_welcome_10 : decode cX0_welcome 10 = .ok (.iload 4, 2) := by decide +kernel
theorem dX0_welcome_12 : decode cX0_welcome 12 = .ok (.iload_n 1, 1) := by decide +kernel
theorem dX0_welcome_13 : decode cX0_welcome 13 = .ok (.bipush 10, 2) := by decide +kernel
theorem dX0_welcome_15 : decode cX0_welcome 15 = .ok (.idiv, 1) := by decide +kernel
theorem dX0_welcome_16 : decode cX0_welcome 16 = .ok (.iastore, 1) := by decide +kernel
theorem dX0_welcome_17 : decode cX0_welcome 17 = .ok (.aload_n 0, 1) := by decide +kernel
theorem dX0_welcome_18 : decode cX0_welcome 18 = .ok (.getfield 21, 3) := by decide +kernel
theorem dX0_welcome_21 : decode cX0_welcome 21 = .ok (.iload 4, 2) := by decide +kernel
theorem dX0_welcome_23 : decode cX0_welcome 23 = .ok (.iload_n 1, 1) := by decide +kernel
theorem dX0_welcome_24 : decode cX0_welcome 24 = .ok (.bipush 10, 2) := by decide +kernel
theorem dX0_welcome_26 : decode cX0_welcome 26 = .ok (.irem, 1) := by decide +kernel
theorem dX0_welcome_27 : decode cX0_welcome 27 = .ok (.iastore, 1) := by decide +kernel
theorem dX0_welcome_28 : decode cX0_welcome 28 = .ok (.aload_n 0, 1) := by decide +kernel
theorem dX0_welcome_29 : decode cX0_welcome 29 = .ok (.getfield 24, 3) := by decide +kernel
theorem dX0_welcome_32 : decode cX0_welcome 32 = .ok (.iload 4, 2) := by decide +kernel
theorem dX0_welcome_34 : decode cX0_welcome 34 = .ok (.iload_n 2, 1) := by decide +kernel
theorem dX0_welcome_35 : decode cX0_welcome 35 = .ok (.iastore, 1) := by decide +kernel
theorem dX0_welcome_36 : decode cX0_welcome 36 = .ok (.aload_n 0, 1) := by decide +kernel
theorem dX0_welcome_37 : decode cX0_welcome 37 = .ok (.getfield 27, 3) := by decide +kernel
theorem dX0_welcome_40 : decode cX0_welcome 40 = .ok (.iload 4, 2) := by decide +kernel
theorem dX0_welcome_42 : decode cX0_welcome 42 = .ok (.iload_n 3, 1) := by decide +kernel
theorem dX0_welcome_43 : decode cX0_welcome 43 = .ok (.iastore, 1) := by decide +kernel
theorem dX0_welcome_44 : decode cX0_welcome 44 = .ok (.aload_n 0, 1) := by decide +kernel
theorem dX0_welcome_45 : decode cX0_welcome 45 = .ok (.getfield 30, 3) := by decide +kernel
theorem dX0_welcome_48 : decode cX0_welcome 48 = .ok (.iload 4, 2) := by decide +kernel
theorem dX0_welcome_50 : decode cX0_welcome 50 = .ok (.iconst 0, 1) := by decide +kernel
theorem dX0_welcome_51 : decode cX0_welcome 51 = .ok (.iastore, 1) := by decide +kernel
theorem dX0_welcome_52 : decode cX0_welcome 52 = .ok (.aload_n 0, 1) := by decide +kernel
theorem dX0_welcome_53 : decode cX0_welcome 53 = .ok (.dup, 1) := by decide +kernel
theorem dX0_welcome_54 : decode cX0_welcome 54 = .ok (.getfield 68, 3) := by decide +kernel
theorem dX0_welcome_57 : decode cX0_welcome 57 = .ok (.iconst 1, 1) := by decide +kernel
theorem dX0_welcome_58 : decode cX0_welcome 58 = .ok (.iadd, 1) := by decide +kernel
theorem dX0_welcome_59 : decode cX0_welcome 59 = .ok (.putfield 68, 3) := by decide +kernel
theorem dX0_welcome_62 : decode cX0_welcome 62 = .ok (.iload 4, 2) := by decide +kernel
theorem dX0_welcome_64 : decode cX0_welcome 64 = .ok (.ireturn, 1) := by decide +kernel
theorem dX0_isAdmitted_0 : decode cX0_isAdmitted 0 = .ok (.aload_n 0, 1) := by decide +kernel
theorem dX0_isAdmitted_1 : decode cX0_isAdmitted 1 = .ok (.getfield 61, 3) := by decide +kernel
theorem dX0_isAdmitted_4 : decode cX0_isAdmitted 4 = .ok (.iload_n 1, 1) := by decide +kernel
theorem dX0_isAdmitted_5 : decode cX0_isAdmitted 5 = .ok (.ishr, 1) := by decide +kernel
theorem dX0_isAdmitted_6 : decode cX0_isAdmitted 6 = .ok (.iconst 1, 1) := by decide +kernel
theorem dX0_isAdmitted_7 : decode cX0_isAdmitted 7 = .ok (.iand, 1) := by decide +kernel
theorem dX0_isAdmitted_8 : decode cX0_isAdmitted 8 = .ok (.iconst 1, 1) := by decide +kernel
theorem dX0_isAdmitted_9 : decode cX0_isAdmitted 9 = .ok (.if_icmp .ne 7, 3) := by decide +kernel
theorem dX0_isAdmitted_12 : decode cX0_isAdmitted 12 = .ok (.iconst 1, 1) := by decide +kernel
theorem dX0_isAdmitted_13 : decode cX0_isAdmitted 13 = .ok (.goto 4, 3) := by decide +kernel
theorem dX0_isAdmitted_16 : decode cX0_isAdmitted 16 = .ok (.iconst 0, 1) := by decide +kernel
theorem dX0_isAdmitted_17 : decode cX0_isAdmitted 17 = .ok (.ireturn, 1) := by decide +kernel
set_option maxRecDepth 20000 in
theorem ggX0_verdict_X0_weightOf : GoodIn wsX0_verdict wsX0_weightOf := goodIn_r _ [6, 7, 8, 9, 10, 11, 12, 13, 14, 15, 16, 17, 18, 19, 20, 21, 22] (by decide +kernel) (by decide +kernel)
set_option maxRecDepth 20000 in
theorem gX0_verdict_X0_weightOf : GoodIn wsX0_verdict (wsV RX0 75 RX0 yX0_weightOf wsX0_weightOf) := goodIn_app (goodIn_of _ (by decide +kernel)) ggX0_verdict_X0_weightOf
theorem dX0_verdict_0 : decode cX0_verdict 0 = .ok (.aload_n 0, 1) := by decide +kernel
theorem dX0_verdict_1 : decode cX0_verdict 1 = .ok (.aload_n 0, 1) := by decide +kernel
theorem dX0_verdict_2 : decode cX0_verdict 2 = .ok (.getfield 61, 3) := by decide +kernel
theorem dX0_verdict_5 : decode cX0_verdict 5 = .ok (.invokevirtual 75, 3) := by decide +kernel
theorem dX0_verdict_8 : decode cX0_verdict 8 = .ok (.ireturn, 1) := by decide +kernel
theorem dX0_weightOf_0 : decode cX0_weightOf 0 = .ok (.iconst 0, 1) := by decide +kernel
theorem dX0_weightOf_1 : decode cX0_weightOf 1 = .ok (.istore_n 2, 1) := by decide +kernel
theorem dX0_weightOf_2 : decode cX0_weightOf 2 = .ok (.iconst 0, 1) := by decide +kernel
theorem dX0_weightOf_3 : decode cX0_weightOf 3 = .ok (.istore_n 3, 1) := by decide +kernel
theorem dX0_weightOf_4 : decode cX0_weightOf 4 = .ok (.iload_n 3, 1) := by decide +kernel
theorem dX0_weightOf_5 : decode cX0_weightOf 5 = .ok (.bipush 10, 2) := by decide +kernel
theorem dX0_weightOf_7 : decode cX0_weightOf 7 = .ok (.if_icmp .ge 31, 3) := by decide +kernel
theorem dX0_weightOf_10 : decode cX0_weightOf 10 = .ok (.iload_n 2, 1) := by decide +kernel
theorem dX0_weightOf_11 : decode cX0_weightOf 11 = .ok (.iload_n 1, 1) := by decide +kernel
theorem dX0_weightOf_12 : decode cX0_weightOf 12 = .ok (.iload_n 3, 1) := by decide +kernel
theorem dX0_weightOf_13 : decode cX0_weightOf 13 = .ok (.ishr, 1) := by decide +kernel
theorem dX0_weightOf_14 : decode cX0_weightOf 14 = .ok (.iconst 1, 1) := by decide +kernel
theorem dX0_weightOf_15 : decode cX0_weightOf 15 = .ok (.iand, 1) := by decide +kernel
theorem dX0_weightOf_16 : decode cX0_weightOf 16 = .ok (.iconst 1, 1) := by decide +kernel
theorem dX0_weightOf_17 : decode cX0_weightOf 17 = .ok (.if_icmp .ne 12, 3) := by decide +kernel
theorem dX0_weightOf_20 : decode cX0_weightOf 20 = .ok (.aload_n 0, 1) := by decide +kernel
theorem dX0_weightOf_21 : decode cX0_weightOf 21 = .ok (.getfield 9, 3) := by decide +kernel
theorem dX0_weightOf_24 : decode cX0_weightOf 24 = .ok (.iload_n 3, 1) := by decide +kernel
theorem dX0_weightOf_25 : decode cX0_weightOf 25 = .ok (.iaload, 1) := by decide +kernel
theorem dX0_weightOf_26 : decode cX0_weightOf 26 = .ok (.goto 4, 3) := by decide +kernel
theorem dX0_weightOf_29 : decode cX0_weightOf 29 = .ok (.iconst 0, 1) := by decide +kernel
theorem dX0_weightOf_30 : decode cX0_weightOf 30 = .ok (.iadd, 1) := by decide +kernel
theorem dX0_weightOf_31 : decode cX0_weightOf 31 = .ok (.istore_n 2, 1) := by decide +kernel
theorem dX0_weightOf_32 : decode cX0_weightOf 32 = .ok (.iinc 3 1, 3) := by decide +kernel
theorem dX0_weightOf_35 : decode cX0_weightOf 35 = .ok (.goto (-31), 3) := by decide +kernel
theorem dX0_weightOf_38 : decode cX0_weightOf 38 = .ok (.iload_n 2, 1) := by decide +kernel
theorem dX0_weightOf_39 : decode cX0_weightOf 39 = .ok (.ireturn, 1) := by decide +kernel
set_option maxRecDepth 20000 in
theorem ggX0_lies_X5_isBelow : GoodIn wsX0_lies wsX5_isBelow := goodIn_r _ [4] (by decide +kernel) (by decide +kernel)
set_option maxRecDepth 20000 in
theorem gX0_lies_X5_isBelow_n71 : GoodIn wsX0_lies (wsX5_isBelow) := ggX0_lies_X5_isBelow
theorem dX0_lies_0 : decode cX0_lies 0 = .ok (.iload_n 1, 1) := by decide +kernel
theorem dX0_lies_1 : decode cX0_lies 1 = .ok (.bipush 8, 2) := by decide +kernel
theorem dX0_lies_3 : decode cX0_lies 3 = .ok (.invokestatic 71, 3) := by decide +kernel
theorem dX0_lies_6 : decode cX0_lies 6 = .ok (.ifCond .eq 17, 3) := by decide +kernel
theorem dX0_lies_9 : decode cX0_lies 9 = .ok (.aload_n 0, 1) := by decide +kernel
theorem dX0_lies_10 : decode cX0_lies 10 = .ok (.getfield 33, 3) := by decide +kernel
theorem dX0_lies_13 : decode cX0_lies 13 = .ok (.iload_n 1, 1) := by decide +kernel
theorem dX0_lies_14 : decode cX0_lies 14 = .ok (.iaload, 1) := by decide +kernel
theorem dX0_lies_15 : decode cX0_lies 15 = .ok (.iconst (-1), 1) := by decide +kernel
theorem dX0_lies_16 : decode cX0_lies 16 = .ok (.if_icmp .eq 7, 3) := by decide +kernel
theorem dX0_lies_19 : decode cX0_lies 19 = .ok (.iconst 1, 1) := by decide +kernel
theorem dX0_lies_20 : decode cX0_lies 20 = .ok (.goto 4, 3) := by decide +kernel
theorem dX0_lies_23 : decode cX0_lies 23 = .ok (.iconst 0, 1) := by decide +kernel
theorem dX0_lies_24 : decode cX0_lies 24 = .ok (.ireturn, 1) := by decide +kernel
theorem dX0_lying_0 : decode cX0_lying 0 = .ok (.iconst 0, 1) := by decide +kernel
theorem dX0_lying_1 : decode cX0_lying 1 = .ok (.istore_n 1, 1) := by decide +kernel
theorem dX0_lying_2 : decode cX0_lying 2 = .ok (.iconst 0, 1) := by decide +kernel
theorem dX0_lying_3 : decode cX0_lying 3 = .ok (.istore_n 2, 1) := by decide +kernel
theorem dX0_lying_4 : decode cX0_lying 4 = .ok (.iload_n 2, 1) := by decide +kernel
theorem dX0_lying_5 : decode cX0_lying 5 = .ok (.bipush 8, 2) := by decide +kernel
theorem dX0_lying_7 : decode cX0_lying 7 = .ok (.if_icmp .ge 27, 3) := by decide +kernel
theorem dX0_lying_10 : decode cX0_lying 10 = .ok (.iload_n 1, 1) := by decide +kernel
theorem dX0_lying_11 : decode cX0_lying 11 = .ok (.aload_n 0, 1) := by decide +kernel
theorem dX0_lying_12 : decode cX0_lying 12 = .ok (.getfield 33, 3) := by decide +kernel
theorem dX0_lying_15 : decode cX0_lying 15 = .ok (.iload_n 2, 1) := by decide +kernel
theorem dX0_lying_16 : decode cX0_lying 16 = .ok (.iaload, 1) := by decide +kernel
theorem dX0_lying_17 : decode cX0_lying 17 = .ok (.iconst (-1), 1) := by decide +kernel
theorem dX0_lying_18 : decode cX0_lying 18 = .ok (.if_icmp .eq 7, 3) := by decide +kernel
theorem dX0_lying_21 : decode cX0_lying 21 = .ok (.iconst 1, 1) := by decide +kernel
theorem dX0_lying_22 : decode cX0_lying 22 = .ok (.goto 4, 3) := by decide +kernel
theorem dX0_lying_25 : decode cX0_lying 25 = .ok (.iconst 0, 1) := by decide +kernel
theorem dX0_lying_26 : decode cX0_lying 26 = .ok (.iadd, 1) := by decide +kernel
theorem dX0_lying_27 : decode cX0_lying 27 = .ok (.istore_n 1, 1) := by decide +kernel
theorem dX0_lying_28 : decode cX0_lying 28 = .ok (.iinc 2 1, 3) := by decide +kernel
theorem dX0_lying_31 : decode cX0_lying 31 = .ok (.goto (-27), 3) := by decide +kernel
theorem dX0_lying_34 : decode cX0_lying 34 = .ok (.iload_n 1, 1) := by decide +kernel
theorem dX0_lying_35 : decode cX0_lying 35 = .ok (.ireturn, 1) := by decide +kernel
theorem dX0_linensOf_0 : decode cX0_linensOf 0 = .ok (.iconst 0, 1) := by decide +kernel
theorem dX0_linensOf_1 : decode cX0_linensOf 1 = .ok (.istore_n 2, 1) := by decide +kernel
theorem dX0_linensOf_2 : decode cX0_linensOf 2 = .ok (.iconst 0, 1) := by decide +kernel
theorem dX0_linensOf_3 : decode cX0_linensOf 3 = .ok (.istore_n 3, 1) := by decide +kernel
theorem dX0_linensOf_4 : decode cX0_linensOf 4 = .ok (.iload_n 3, 1) := by decide +kernel
theorem dX0_linensOf_5 : decode cX0_linensOf 5 = .ok (.bipush 8, 2) := by decide +kernel
theorem dX0_linensOf_7 : decode cX0_linensOf 7 = .ok (.if_icmp .ge 29, 3) := by decide +kernel
theorem dX0_linensOf_10 : decode cX0_linensOf 10 = .ok (.iload_n 2, 1) := by decide +kernel
theorem dX0_linensOf_11 : decode cX0_linensOf 11 = .ok (.aload_n 0, 1) := by decide +kernel
theorem dX0_linensOf_12 : decode cX0_linensOf 12 = .ok (.getfield 33, 3) := by decide +kernel
theorem dX0_linensOf_15 : decode cX0_linensOf 15 = .ok (.iload_n 3, 1) := by decide +kernel
theorem dX0_linensOf_16 : decode cX0_linensOf 16 = .ok (.iaload, 1) := by decide +kernel
theorem dX0_linensOf_17 : decode cX0_linensOf 17 = .ok (.iload_n 1, 1) := by decide +kernel
theorem dX0_linensOf_18 : decode cX0_linensOf 18 = .ok (.if_icmp .ne 9, 3) := by decide +kernel
theorem dX0_linensOf_21 : decode cX0_linensOf 21 = .ok (.iconst 1, 1) := by decide +kernel
theorem dX0_linensOf_22 : decode cX0_linensOf 22 = .ok (.iload_n 3, 1) := by decide +kernel
theorem dX0_linensOf_23 : decode cX0_linensOf 23 = .ok (.ishl, 1) := by decide +kernel
theorem dX0_linensOf_24 : decode cX0_linensOf 24 = .ok (.goto 4, 3) := by decide +kernel
theorem dX0_linensOf_27 : decode cX0_linensOf 27 = .ok (.iconst 0, 1) := by decide +kernel
theorem dX0_linensOf_28 : decode cX0_linensOf 28 = .ok (.ior, 1) := by decide +kernel
theorem dX0_linensOf_29 : decode cX0_linensOf 29 = .ok (.istore_n 2, 1) := by decide +kernel
theorem dX0_linensOf_30 : decode cX0_linensOf 30 = .ok (.iinc 3 1, 3) := by decide +kernel
theorem dX0_linensOf_33 : decode cX0_linensOf 33 = .ok (.goto (-29), 3) := by decide +kernel
theorem dX0_linensOf_36 : decode cX0_linensOf 36 = .ok (.iload_n 2, 1) := by decide +kernel
theorem dX0_linensOf_37 : decode cX0_linensOf 37 = .ok (.ireturn, 1) := by decide +kernel
set_option maxRecDepth 20000 in
theorem ggX0_looks_X2_says : GoodIn wsX0_looks wsX2_says := goodIn_r _ [8, 9, 10, 11, 12, 13, 14, 15, 16, 17, 18, 19, 20, 3, 21, 22, 23, 24, 25, 26, 27, 28, 29, 30, 31, 32, 33, 34, 7, 35, 36, 37, 38, 39, 40, 41, 42, 43, 44, 45, 46, 47, 48, 56, 57, 58, 59, 60, 61, 62, 63, 64, 65, 66, 67, 68, 69, 70, 71, 72, 73, 74] (by decide +kernel) (by decide +kernel)
set_option maxRecDepth 20000 in
theorem gX0_looks_X2_says : GoodIn wsX0_looks (wsV RX0 81 RX2 yX2_says wsX2_says) := goodIn_app (goodIn_of _ (by decide +kernel)) ggX0_looks_X2_says
set_option maxRecDepth 20000 in
theorem ggX0_looks_X1_looksOf : GoodIn wsX0_looks wsX1_looksOf := goodIn_r _ [52, 53, 54, 51, 55] (by decide +kernel) (by decide +kernel)
set_option maxRecDepth 20000 in
theorem gX0_looks_X1_looksOf : GoodIn wsX0_looks (va_wsS RX0 85 yX1_looksOf wsX1_looksOf) := goodIn_app (goodIn_of _ (by decide +kernel)) ggX0_looks_X1_looksOf
set_option maxRecDepth 20000 in
theorem ggX0_looks_X5_bounded : GoodIn wsX0_looks wsX5_bounded := goodIn_r _ [41, 42, 43, 44, 45, 46, 47, 48] (by decide +kernel) (by decide +kernel)
set_option maxRecDepth 20000 in
theorem gX0_looks_X5_bounded_n91 : GoodIn wsX0_looks (wsX5_bounded) := ggX0_looks_X5_bounded
theorem dX0_looks_0 : decode cX0_looks 0 = .ok (.aload_n 0, 1) := by decide +kernel
theorem dX0_looks_1 : decode cX0_looks 1 = .ok (.getfield 42, 3) := by decide +kernel
theorem dX0_looks_4 : decode cX0_looks 4 = .ok (.iconst 0, 1) := by decide +kernel
theorem dX0_looks_5 : decode cX0_looks 5 = .ok (.aload_n 0, 1) := by decide +kernel
theorem dX0_looks_6 : decode cX0_looks 6 = .ok (.iload_n 1, 1) := by decide +kernel
theorem dX0_looks_7 : decode cX0_looks 7 = .ok (.invokevirtual 81, 3) := by decide +kernel
theorem dX0_looks_10 : decode cX0_looks 10 = .ok (.istore_n 3, 1) := by decide +kernel
theorem dX0_looks_11 : decode cX0_looks 11 = .ok (.aload_n 0, 1) := by decide +kernel
theorem dX0_looks_12 : decode cX0_looks 12 = .ok (.getfield 18, 3) := by decide +kernel
theorem dX0_looks_15 : decode cX0_looks 15 = .ok (.iload_n 1, 1) := by decide +kernel
theorem dX0_looks_16 : decode cX0_looks 16 = .ok (.iaload, 1) := by decide +kernel
theorem dX0_looks_17 : decode cX0_looks 17 = .ok (.iload_n 3, 1) := by decide +kernel
theorem dX0_looks_18 : decode cX0_looks 18 = .ok (.aload_n 0, 1) := by decide +kernel
theorem dX0_looks_19 : decode cX0_looks 19 = .ok (.getfield 21, 3) := by decide +kernel
theorem dX0_looks_22 : decode cX0_looks 22 = .ok (.iload_n 1, 1) := by decide +kernel
theorem dX0_looks_23 : decode cX0_looks 23 = .ok (.iaload, 1) := by decide +kernel
theorem dX0_looks_24 : decode cX0_looks 24 = .ok (.iload_n 2, 1) := by decide +kernel
theorem dX0_looks_25 : decode cX0_looks 25 = .ok (.invokestatic 85, 3) := by decide +kernel
theorem dX0_looks_28 : decode cX0_looks 28 = .ok (.iconst 0, 1) := by decide +kernel
theorem dX0_looks_29 : decode cX0_looks 29 = .ok (.bipush 99, 2) := by decide +kernel
theorem dX0_looks_31 : decode cX0_looks 31 = .ok (.invokestatic 91, 3) := by decide +kernel
theorem dX0_looks_34 : decode cX0_looks 34 = .ok (.ireturn, 1) := by decide +kernel
set_option maxRecDepth 20000 in
theorem ggX0_waits_X2_says : GoodIn wsX0_waits wsX2_says := goodIn_r _ [9, 10, 11, 12, 13, 14, 15, 16, 17, 18, 19, 4, 20, 3, 21, 22, 23, 24, 25, 26, 27, 28, 29, 30, 31, 32, 33, 34, 8, 35, 36, 37, 38, 39, 40, 41, 42, 43, 44, 45, 46, 47, 48, 53, 54, 55, 56, 57, 58, 59, 60, 61, 62, 63, 64, 65, 66, 67, 68, 69, 70, 71] (by decide +kernel) (by decide +kernel)
set_option maxRecDepth 20000 in
theorem gX0_waits_X2_says : GoodIn wsX0_waits (wsV RX0 81 RX2 yX2_says wsX2_says) := goodIn_app (goodIn_of _ (by decide +kernel)) ggX0_waits_X2_says
set_option maxRecDepth 20000 in
theorem ggX0_waits_X1_waitsOf : GoodIn wsX0_waits wsX1_waitsOf := goodIn_r _ [52] (by decide +kernel) (by decide +kernel)
set_option maxRecDepth 20000 in
theorem gX0_waits_X1_waitsOf : GoodIn wsX0_waits (va_wsS RX0 95 yX1_waitsOf wsX1_waitsOf) := goodIn_app (goodIn_of _ (by decide +kernel)) ggX0_waits_X1_waitsOf
set_option maxRecDepth 20000 in
theorem ggX0_waits_X5_bounded : GoodIn wsX0_waits wsX5_bounded := goodIn_r _ [41, 42, 43, 44, 45, 46, 47, 48] (by decide +kernel) (by decide +kernel)
set_option maxRecDepth 20000 in
theorem gX0_waits_X5_bounded_n91 : GoodIn wsX0_waits (wsX5_bounded) := ggX0_waits_X5_bounded
theorem dX0_waits_0 : decode cX0_waits 0 = .ok (.aload_n 0, 1) := by decide +kernel
theorem dX0_waits_1 : decode cX0_waits 1 = .ok (.getfield 42, 3) := by decide +kernel
theorem dX0_waits_4 : decode cX0_waits 4 = .ok (.iconst 1, 1) := by decide +kernel
theorem dX0_waits_5 : decode cX0_waits 5 = .ok (.aload_n 0, 1) := by decide +kernel
theorem dX0_waits_6 : decode cX0_waits 6 = .ok (.iload_n 1, 1) := by decide +kernel
theorem dX0_waits_7 : decode cX0_waits 7 = .ok (.invokevirtual 81, 3) := by decide +kernel
theorem dX0_waits_10 : decode cX0_waits 10 = .ok (.istore_n 2, 1) := by decide +kernel
theorem dX0_waits_11 : decode cX0_waits 11 = .ok (.aload_n 0, 1) := by decide +kernel
theorem dX0_waits_12 : decode cX0_waits 12 = .ok (.getfield 18, 3) := by decide +kernel
theorem dX0_waits_15 : decode cX0_waits 15 = .ok (.iload_n 1, 1) := by decide +kernel
theorem dX0_waits_16 : decode cX0_waits 16 = .ok (.iaload, 1) := by decide +kernel
theorem dX0_waits_17 : decode cX0_waits 17 = .ok (.iload_n 2, 1) := by decide +kernel
theorem dX0_waits_18 : decode cX0_waits 18 = .ok (.aload_n 0, 1) := by decide +kernel
theorem dX0_waits_19 : decode cX0_waits 19 = .ok (.getfield 21, 3) := by decide +kernel
theorem dX0_waits_22 : decode cX0_waits 22 = .ok (.iload_n 1, 1) := by decide +kernel
theorem dX0_waits_23 : decode cX0_waits 23 = .ok (.iaload, 1) := by decide +kernel
theorem dX0_waits_24 : decode cX0_waits 24 = .ok (.aload_n 0, 1) := by decide +kernel
theorem dX0_waits_25 : decode cX0_waits 25 = .ok (.getfield 65, 3) := by decide +kernel
theorem dX0_waits_28 : decode cX0_waits 28 = .ok (.invokestatic 95, 3) := by decide +kernel
theorem dX0_waits_31 : decode cX0_waits 31 = .ok (.iconst 1, 1) := by decide +kernel
theorem dX0_waits_32 : decode cX0_waits 32 = .ok (.bipush 99, 2) := by decide +kernel
theorem dX0_waits_34 : decode cX0_waits 34 = .ok (.invokestatic 91, 3) := by decide +kernel
theorem dX0_waits_37 : decode cX0_waits 37 = .ok (.ireturn, 1) := by decide +kernel
set_option maxRecDepth 20000 in
theorem ggX0_drops_J6_bitCount_0f7a4 : GoodIn wsX0_drops wsJ6_bitCount_0f7a4 := goodIn_r _ [8, 9, 10, 11] (by decide +kernel) (by decide +kernel)
set_option maxRecDepth 20000 in
theorem gX0_drops_J6_bitCount_0f7a4 : GoodIn wsX0_drops (va_wsS RX0 98 yJ6_bitCount_0f7a4 wsJ6_bitCount_0f7a4) := goodIn_app (goodIn_of _ (by decide +kernel)) ggX0_drops_J6_bitCount_0f7a4
set_option maxRecDepth 20000 in
theorem ggX0_drops_X2_says : GoodIn wsX0_drops wsX2_says := goodIn_r _ [16, 17, 18, 19, 20, 21, 22, 23, 24, 25, 1, 26, 27, 4, 5, 6, 7, 8, 9, 10, 11, 28, 29, 30, 31, 32, 33, 34, 15, 35, 36, 37, 38, 39, 40, 41, 42, 43, 44, 45, 46, 47, 48, 58, 59, 60, 61, 62, 63, 64, 65, 66, 67, 68, 69, 70, 71, 72, 73, 74, 75, 76] (by decide +kernel) (by decide +kernel)
set_option maxRecDepth 20000 in
theorem gX0_drops_X2_says : GoodIn wsX0_drops (wsV RX0 81 RX2 yX2_says wsX2_says) := goodIn_app (goodIn_of _ (by decide +kernel)) ggX0_drops_X2_says
set_option maxRecDepth 20000 in
theorem ggX0_drops_X1_dropsOf : GoodIn wsX0_drops wsX1_dropsOf := goodIn_r _ [52, 53, 47, 44, 48, 54, 55, 56, 57] (by decide +kernel) (by decide +kernel)
set_option maxRecDepth 20000 in
theorem gX0_drops_X1_dropsOf : GoodIn wsX0_drops (va_wsS RX0 103 yX1_dropsOf wsX1_dropsOf) := goodIn_app (goodIn_of _ (by decide +kernel)) ggX0_drops_X1_dropsOf
theorem dX0_drops_0 : decode cX0_drops 0 = .ok (.aload_n 0, 1) := by decide +kernel
theorem dX0_drops_1 : decode cX0_drops 1 = .ok (.getfield 24, 3) := by decide +kernel
theorem dX0_drops_4 : decode cX0_drops 4 = .ok (.iload_n 1, 1) := by decide +kernel
theorem dX0_drops_5 : decode cX0_drops 5 = .ok (.iaload, 1) := by decide +kernel
theorem dX0_drops_6 : decode cX0_drops 6 = .ok (.invokestatic 98, 3) := by decide +kernel
theorem dX0_drops_9 : decode cX0_drops 9 = .ok (.istore_n 2, 1) := by decide +kernel
theorem dX0_drops_10 : decode cX0_drops 10 = .ok (.iload_n 2, 1) := by decide +kernel
theorem dX0_drops_11 : decode cX0_drops 11 = .ok (.ifCond .ne 5, 3) := by decide +kernel
theorem dX0_drops_14 : decode cX0_drops 14 = .ok (.iconst (-1), 1) := by decide +kernel
theorem dX0_drops_15 : decode cX0_drops 15 = .ok (.ireturn, 1) := by decide +kernel
theorem dX0_drops_16 : decode cX0_drops 16 = .ok (.aload_n 0, 1) := by decide +kernel
theorem dX0_drops_17 : decode cX0_drops 17 = .ok (.getfield 18, 3) := by decide +kernel
theorem dX0_drops_20 : decode cX0_drops 20 = .ok (.iload_n 1, 1) := by decide +kernel
theorem dX0_drops_21 : decode cX0_drops 21 = .ok (.iaload, 1) := by decide +kernel
theorem dX0_drops_22 : decode cX0_drops 22 = .ok (.aload_n 0, 1) := by decide +kernel
theorem dX0_drops_23 : decode cX0_drops 23 = .ok (.getfield 42, 3) := by decide +kernel
theorem dX0_drops_26 : decode cX0_drops 26 = .ok (.iconst 2, 1) := by decide +kernel
theorem dX0_drops_27 : decode cX0_drops 27 = .ok (.aload_n 0, 1) := by decide +kernel
theorem dX0_drops_28 : decode cX0_drops 28 = .ok (.iload_n 1, 1) := by decide +kernel
theorem dX0_drops_29 : decode cX0_drops 29 = .ok (.invokevirtual 81, 3) := by decide +kernel
theorem dX0_drops_32 : decode cX0_drops 32 = .ok (.aload_n 0, 1) := by decide +kernel
theorem dX0_drops_33 : decode cX0_drops 33 = .ok (.getfield 21, 3) := by decide +kernel
theorem dX0_drops_36 : decode cX0_drops 36 = .ok (.iload_n 1, 1) := by decide +kernel
theorem dX0_drops_37 : decode cX0_drops 37 = .ok (.iaload, 1) := by decide +kernel
theorem dX0_drops_38 : decode cX0_drops 38 = .ok (.iload_n 2, 1) := by decide +kernel
theorem dX0_drops_39 : decode cX0_drops 39 = .ok (.invokestatic 103, 3) := by decide +kernel
theorem dX0_drops_42 : decode cX0_drops 42 = .ok (.istore_n 3, 1) := by decide +kernel
theorem dX0_drops_43 : decode cX0_drops 43 = .ok (.iconst 0, 1) := by decide +kernel
theorem dX0_drops_44 : decode cX0_drops 44 = .ok (.istore 4, 2) := by decide +kernel
theorem dX0_drops_46 : decode cX0_drops 46 = .ok (.iload 4, 2) := by decide +kernel
theorem dX0_drops_48 : decode cX0_drops 48 = .ok (.bipush 10, 2) := by decide +kernel
theorem dX0_drops_50 : decode cX0_drops 50 = .ok (.if_icmp .ge 34, 3) := by decide +kernel
theorem dX0_drops_53 : decode cX0_drops 53 = .ok (.aload_n 0, 1) := by decide +kernel
theorem dX0_drops_54 : decode cX0_drops 54 = .ok (.getfield 24, 3) := by decide +kernel
theorem dX0_drops_57 : decode cX0_drops 57 = .ok (.iload_n 1, 1) := by decide +kernel
theorem dX0_drops_58 : decode cX0_drops 58 = .ok (.iaload, 1) := by decide +kernel
theorem dX0_drops_59 : decode cX0_drops 59 = .ok (.iload 4, 2) := by decide +kernel
theorem dX0_drops_61 : decode cX0_drops 61 = .ok (.ishr, 1) := by decide +kernel
theorem dX0_drops_62 : decode cX0_drops 62 = .ok (.iconst 1, 1) := by decide +kernel
theorem dX0_drops_63 : decode cX0_drops 63 = .ok (.iand, 1) := by decide +kernel
theorem dX0_drops_64 : decode cX0_drops 64 = .ok (.iconst 1, 1) := by decide +kernel
theorem dX0_drops_65 : decode cX0_drops 65 = .ok (.if_icmp .ne 13, 3) := by decide +kernel
theorem dX0_drops_68 : decode cX0_drops 68 = .ok (.iload_n 3, 1) := by decide +kernel
theorem dX0_drops_69 : decode cX0_drops 69 = .ok (.ifCond .ne 6, 3) := by decide +kernel
theorem dX0_drops_72 : decode cX0_drops 72 = .ok (.iload 4, 2) := by decide +kernel
theorem dX0_drops_74 : decode cX0_drops 74 = .ok (.ireturn, 1) := by decide +kernel
theorem dX0_drops_75 : decode cX0_drops 75 = .ok (.iinc 3 (-1), 3) := by decide +kernel
theorem dX0_drops_78 : decode cX0_drops 78 = .ok (.iinc 4 1, 3) := by decide +kernel
theorem dX0_drops_81 : decode cX0_drops 81 = .ok (.goto (-35), 3) := by decide +kernel
theorem dX0_drops_84 : decode cX0_drops 84 = .ok (.iconst (-1), 1) := by decide +kernel
theorem dX0_drops_85 : decode cX0_drops 85 = .ok (.ireturn, 1) := by decide +kernel
set_option maxRecDepth 20000 in
theorem ggX0_stoops_X0_looks : GoodIn wsX0_stoops wsX0_looks := goodIn_r _ [6, 7, 8, 9, 10, 11, 12, 13, 14, 15, 16, 17, 18, 19, 20, 5, 21, 22, 23, 24, 25, 26, 27, 28, 29, 30, 31, 32, 33, 34, 35, 36, 37, 38, 39, 40, 41, 42, 43, 44, 45, 46, 47, 48, 49, 50, 51, 52, 53, 54, 55, 56, 57, 58, 59, 60, 61, 62, 63, 64, 65, 66, 67, 68, 69, 70, 71, 72, 73, 74, 75, 76, 77, 78, 79] (by decide +kernel) (by decide +kernel)
set_option maxRecDepth 20000 in
theorem gX0_stoops_X0_looks : GoodIn wsX0_stoops (wsV RX0 106 RX0 yX0_looks wsX0_looks) := goodIn_app (goodIn_of _ (by decide +kernel)) ggX0_stoops_X0_looks
theorem dX0_stoops_0 : decode cX0_stoops 0 = .ok (.aload_n 0, 1) := by decide +kernel
theorem dX0_stoops_1 : decode cX0_stoops 1 = .ok (.getfield 15, 3) := by decide +kernel
theorem dX0_stoops_4 : decode cX0_stoops 4 = .ok (.iload_n 1, 1) := by decide +kernel
theorem dX0_stoops_5 : decode cX0_stoops 5 = .ok (.iaload, 1) := by decide +kernel
theorem dX0_stoops_6 : decode cX0_stoops 6 = .ok (.aload_n 0, 1) := by decide +kernel
theorem dX0_stoops_7 : decode cX0_stoops 7 = .ok (.iload_n 2, 1) := by decide +kernel
theorem dX0_stoops_8 : decode cX0_stoops 8 = .ok (.iload_n 1, 1) := by decide +kernel
theorem dX0_stoops_9 : decode cX0_stoops 9 = .ok (.invokevirtual 106, 3) := by decide +kernel
theorem dX0_stoops_12 : decode cX0_stoops 12 = .ok (.iadd, 1) := by decide +kernel
theorem dX0_stoops_13 : decode cX0_stoops 13 = .ok (.bipush 100, 2) := by decide +kernel
theorem dX0_stoops_15 : decode cX0_stoops 15 = .ok (.if_icmp .lt 7, 3) := by decide +kernel
theorem dX0_stoops_18 : decode cX0_stoops 18 = .ok (.iconst 1, 1) := by decide +kernel
theorem dX0_stoops_19 : decode cX0_stoops 19 = .ok (.goto 4, 3) := by decide +kernel
theorem dX0_stoops_22 : decode cX0_stoops 22 = .ok (.iconst 0, 1) := by decide +kernel
theorem dX0_stoops_23 : decode cX0_stoops 23 = .ok (.ireturn, 1) := by decide +kernel
set_option maxRecDepth 20000 in
theorem ggX0_stooping_X0_stoops : GoodIn wsX0_stooping wsX0_stoops := goodIn_r _ [5, 6, 7, 8, 9, 4, 10, 11, 12, 13, 14, 15, 16, 17, 18, 19, 20, 21, 22, 23, 24, 25, 26, 27, 28, 29, 30, 31, 32, 33, 34, 35, 36, 37, 38, 39, 40, 41, 42, 43, 44, 45, 46, 47, 48, 49, 50, 51, 52, 53, 54, 55, 56, 57, 58, 59, 60, 61, 62, 63, 64, 65, 66, 67, 68, 69, 70, 71, 72, 73, 74, 75, 76, 77, 78, 79, 80, 81, 82, 83] (by decide +kernel) (by decide +kernel)
set_option maxRecDepth 20000 in
theorem gX0_stooping_X0_stoops : GoodIn wsX0_stooping (wsV RX0 110 RX0 yX0_stoops wsX0_stoops) := goodIn_app (goodIn_of _ (by decide +kernel)) ggX0_stooping_X0_stoops
theorem dX0_stooping_0 : decode cX0_stooping 0 = .ok (.iconst 0, 1) := by decide +kernel
theorem dX0_stooping_1 : decode cX0_stooping 1 = .ok (.istore_n 2, 1) := by decide +kernel
theorem dX0_stooping_2 : decode cX0_stooping 2 = .ok (.iconst 0, 1) := by decide +kernel
theorem dX0_stooping_3 : decode cX0_stooping 3 = .ok (.istore_n 3, 1) := by decide +kernel
theorem dX0_stooping_4 : decode cX0_stooping 4 = .ok (.iload_n 3, 1) := by decide +kernel
theorem dX0_stooping_5 : decode cX0_stooping 5 = .ok (.bipush 6, 2) := by decide +kernel
theorem dX0_stooping_7 : decode cX0_stooping 7 = .ok (.if_icmp .ge 28, 3) := by decide +kernel
theorem dX0_stooping_10 : decode cX0_stooping 10 = .ok (.iload_n 2, 1) := by decide +kernel
theorem dX0_stooping_11 : decode cX0_stooping 11 = .ok (.aload_n 0, 1) := by decide +kernel
theorem dX0_stooping_12 : decode cX0_stooping 12 = .ok (.iload_n 3, 1) := by decide +kernel
theorem dX0_stooping_13 : decode cX0_stooping 13 = .ok (.iload_n 1, 1) := by decide +kernel
theorem dX0_stooping_14 : decode cX0_stooping 14 = .ok (.invokevirtual 110, 3) := by decide +kernel
theorem dX0_stooping_17 : decode cX0_stooping 17 = .ok (.ifCond .eq 9, 3) := by decide +kernel
theorem dX0_stooping_20 : decode cX0_stooping 20 = .ok (.iconst 1, 1) := by decide +kernel
theorem dX0_stooping_21 : decode cX0_stooping 21 = .ok (.iload_n 3, 1) := by decide +kernel
theorem dX0_stooping_22 : decode cX0_stooping 22 = .ok (.ishl, 1) := by decide +kernel
theorem dX0_stooping_23 : decode cX0_stooping 23 = .ok (.goto 4, 3) := by decide +kernel
theorem dX0_stooping_26 : decode cX0_stooping 26 = .ok (.iconst 0, 1) := by decide +kernel
theorem dX0_stooping_27 : decode cX0_stooping 27 = .ok (.ior, 1) := by decide +kernel
theorem dX0_stooping_28 : decode cX0_stooping 28 = .ok (.istore_n 2, 1) := by decide +kernel
theorem dX0_stooping_29 : decode cX0_stooping 29 = .ok (.iinc 3 1, 3) := by decide +kernel
theorem dX0_stooping_32 : decode cX0_stooping 32 = .ok (.goto (-28), 3) := by decide +kernel
theorem dX0_stooping_35 : decode cX0_stooping 35 = .ok (.iload_n 2, 1) := by decide +kernel
theorem dX0_stooping_36 : decode cX0_stooping 36 = .ok (.ireturn, 1) := by decide +kernel
set_option maxRecDepth 20000 in
theorem ggX0_canLetFall_X0_lying : GoodIn wsX0_canLetFall wsX0_lying := goodIn_r _ [6, 7, 8, 9, 10, 11, 12, 13, 14, 15, 16, 17, 18, 19, 20, 21, 22] (by decide +kernel) (by decide +kernel)
set_option maxRecDepth 20000 in
theorem gX0_canLetFall_X0_lying : GoodIn wsX0_canLetFall (wsV RX0 113 RX0 yX0_lying wsX0_lying) := goodIn_app (goodIn_of _ (by decide +kernel)) ggX0_canLetFall_X0_lying
theorem dX0_canLetFall_0 : decode cX0_canLetFall 0 = .ok (.aload_n 0, 1) := by decide +kernel
theorem dX0_canLetFall_1 : decode cX0_canLetFall 1 = .ok (.getfield 24, 3) := by decide +kernel
theorem dX0_canLetFall_4 : decode cX0_canLetFall 4 = .ok (.iload_n 1, 1) := by decide +kernel
theorem dX0_canLetFall_5 : decode cX0_canLetFall 5 = .ok (.iaload, 1) := by decide +kernel
theorem dX0_canLetFall_6 : decode cX0_canLetFall 6 = .ok (.ifCond .eq 16, 3) := by decide +kernel
theorem dX0_canLetFall_9 : decode cX0_canLetFall 9 = .ok (.aload_n 0, 1) := by decide +kernel
theorem dX0_canLetFall_10 : decode cX0_canLetFall 10 = .ok (.invokevirtual 113, 3) := by decide +kernel
theorem dX0_canLetFall_13 : decode cX0_canLetFall 13 = .ok (.bipush 8, 2) := by decide +kernel
theorem dX0_canLetFall_15 : decode cX0_canLetFall 15 = .ok (.if_icmp .ge 7, 3) := by decide +kernel
theorem dX0_canLetFall_18 : decode cX0_canLetFall 18 = .ok (.iconst 1, 1) := by decide +kernel
theorem dX0_canLetFall_19 : decode cX0_canLetFall 19 = .ok (.goto 4, 3) := by decide +kernel
theorem dX0_canLetFall_22 : decode cX0_canLetFall 22 = .ok (.iconst 0, 1) := by decide +kernel
theorem dX0_canLetFall_23 : decode cX0_canLetFall 23 = .ok (.ireturn, 1) := by decide +kernel
set_option maxRecDepth 20000 in
theorem ggX0_letFall_X0_drops : GoodIn wsX0_letFall wsX0_drops := goodIn_r _ [8, 9, 10, 11, 12, 13, 14, 15, 16, 17, 18, 19, 20, 21, 22, 23, 24, 25, 26, 27, 28, 29, 30, 7, 31, 32, 33, 34, 35, 36, 37, 38, 1, 39, 40, 41, 42, 43, 44, 45, 46, 47, 48, 49, 50, 51, 52, 53, 54, 55, 56, 57, 58, 59, 60, 61, 62, 63, 71, 72, 73, 74, 75, 76, 77, 78, 79, 80, 81, 82, 83, 84, 85, 86, 87, 88, 89] (by decide +kernel) (by decide +kernel)
set_option maxRecDepth 20000 in
theorem gX0_letFall_X0_drops : GoodIn wsX0_letFall (wsV RX0 117 RX0 yX0_drops wsX0_drops) := goodIn_app (goodIn_of _ (by decide +kernel)) ggX0_letFall_X0_drops
set_option maxRecDepth 20000 in
theorem ggX0_letFall_X0_waits : GoodIn wsX0_letFall wsX0_waits := goodIn_r _ [67, 11, 10, 12, 33, 20, 21, 22, 23, 24, 25, 26, 27, 28, 29, 30, 7, 31, 32, 9, 34, 13, 14, 15, 16, 17, 18, 19, 35, 36, 37, 38, 1, 39, 40, 41, 42, 43, 44, 45, 46, 47, 48, 49, 50, 51, 52, 53, 54, 68, 69, 57, 70, 71, 72, 73, 74, 75, 76, 77, 78, 79, 80, 81, 82, 83, 84, 85, 86, 87, 88, 89] (by decide +kernel) (by decide +kernel)
set_option maxRecDepth 20000 in
theorem gX0_letFall_X0_waits : GoodIn wsX0_letFall (wsV RX0 120 RX0 yX0_waits wsX0_waits) := goodIn_app (goodIn_of _ (by decide +kernel)) ggX0_letFall_X0_waits
theorem dX0_letFall_0 : decode cX0_letFall 0 = .ok (.aload_n 0, 1) := by decide +kernel
theorem dX0_letFall_1 : decode cX0_letFall 1 = .ok (.iload_n 1, 1) := by decide +kernel
theorem dX0_letFall_2 : decode cX0_letFall 2 = .ok (.invokevirtual 117, 3) := by decide +kernel
theorem dX0_letFall_5 : decode cX0_letFall 5 = .ok (.istore_n 2, 1) := by decide +kernel
theorem dX0_letFall_6 : decode cX0_letFall 6 = .ok (.aload_n 0, 1) := by decide +kernel
theorem dX0_letFall_7 : decode cX0_letFall 7 = .ok (.iload_n 1, 1) := by decide +kernel
theorem dX0_letFall_8 : decode cX0_letFall 8 = .ok (.invokevirtual 120, 3) := by decide +kernel
theorem dX0_letFall_11 : decode cX0_letFall 11 = .ok (.istore_n 3, 1) := by decide +kernel
theorem dX0_letFall_12 : decode cX0_letFall 12 = .ok (.iconst 0, 1) := by decide +kernel
theorem dX0_letFall_13 : decode cX0_letFall 13 = .ok (.istore 4, 2) := by decide +kernel
theorem dX0_letFall_15 : decode cX0_letFall 15 = .ok (.iload 4, 2) := by decide +kernel
theorem dX0_letFall_17 : decode cX0_letFall 17 = .ok (.bipush 8, 2) := by decide +kernel
theorem dX0_letFall_19 : decode cX0_letFall 19 = .ok (.if_icmp .ge 52, 3) := by decide +kernel
theorem dX0_letFall_22 : decode cX0_letFall 22 = .ok (.iload_n 2, 1) := by decide +kernel
theorem dX0_letFall_23 : decode cX0_letFall 23 = .ok (.iconst (-1), 1) := by decide +kernel
theorem dX0_letFall_24 : decode cX0_letFall 24 = .ok (.if_icmp .eq 47, 3) := by decide +kernel
theorem dX0_letFall_27 : decode cX0_letFall 27 = .ok (.aload_n 0, 1) := by decide +kernel
theorem dX0_letFall_28 : decode cX0_letFall 28 = .ok (.getfield 33, 3) := by decide +kernel
theorem dX0_letFall_31 : decode cX0_letFall 31 = .ok (.iload 4, 2) := by decide +kernel
theorem dX0_letFall_33 : decode cX0_letFall 33 = .ok (.iaload, 1) := by decide +kernel
theorem dX0_letFall_34 : decode cX0_letFall 34 = .ok (.iconst (-1), 1) := by decide +kernel
theorem dX0_letFall_35 : decode cX0_letFall 35 = .ok (.if_icmp .ne 30, 3) := by decide +kernel
theorem dX0_letFall_38 : decode cX0_letFall 38 = .ok (.aload_n 0, 1) := by decide +kernel
theorem dX0_letFall_39 : decode cX0_letFall 39 = .ok (.getfield 33, 3) := by decide +kernel
theorem dX0_letFall_42 : decode cX0_letFall 42 = .ok (.iload 4, 2) := by decide +kernel
theorem dX0_letFall_44 : decode cX0_letFall 44 = .ok (.iload_n 1, 1) := by decide +kernel
theorem dX0_letFall_45 : decode cX0_letFall 45 = .ok (.iastore, 1) := by decide +kernel
theorem dX0_letFall_46 : decode cX0_letFall 46 = .ok (.aload_n 0, 1) := by decide +kernel
theorem dX0_letFall_47 : decode cX0_letFall 47 = .ok (.getfield 36, 3) := by decide +kernel
theorem dX0_letFall_50 : decode cX0_letFall 50 = .ok (.iload 4, 2) := by decide +kernel
theorem dX0_letFall_52 : decode cX0_letFall 52 = .ok (.iload_n 2, 1) := by decide +kernel
theorem dX0_letFall_53 : decode cX0_letFall 53 = .ok (.iastore, 1) := by decide +kernel
theorem dX0_letFall_54 : decode cX0_letFall 54 = .ok (.aload_n 0, 1) := by decide +kernel
theorem dX0_letFall_55 : decode cX0_letFall 55 = .ok (.getfield 39, 3) := by decide +kernel
theorem dX0_letFall_58 : decode cX0_letFall 58 = .ok (.iload 4, 2) := by decide +kernel
theorem dX0_letFall_60 : decode cX0_letFall 60 = .ok (.iload_n 3, 1) := by decide +kernel
theorem dX0_letFall_61 : decode cX0_letFall 61 = .ok (.iastore, 1) := by decide +kernel
theorem dX0_letFall_62 : decode cX0_letFall 62 = .ok (.iload 4, 2) := by decide +kernel
theorem dX0_letFall_64 : decode cX0_letFall 64 = .ok (.ireturn, 1) := by decide +kernel
theorem dX0_letFall_65 : decode cX0_letFall 65 = .ok (.iinc 4 1, 3) := by decide +kernel
theorem dX0_letFall_68 : decode cX0_letFall 68 = .ok (.goto (-53), 3) := by decide +kernel
theorem dX0_letFall_71 : decode cX0_letFall 71 = .ok (.iconst (-1), 1) := by decide +kernel
theorem dX0_letFall_72 : decode cX0_letFall 72 = .ok (.ireturn, 1) := by decide +kernel
set_option maxRecDepth 20000 in
theorem ggX0_passHours_X0_looks : GoodIn wsX0_passHours wsX0_looks := goodIn_r _ [10, 11, 12, 13, 14, 15, 16, 17, 18, 19, 20, 21, 22, 23, 24, 9, 25, 26, 27, 1, 5, 28, 29, 30, 31, 32, 33, 34, 35, 36, 37, 38, 2, 39, 40, 41, 42, 43, 44, 45, 46, 47, 48, 49, 50, 51, 52, 53, 54, 55, 56, 57, 58, 59, 60, 61, 69, 70, 71, 72, 73, 74, 75, 76, 77, 78, 79, 80, 81, 82, 83, 84, 85, 86, 87] (by decide +kernel) (by decide +kernel)
set_option maxRecDepth 20000 in
theorem gX0_passHours_X0_looks : GoodIn wsX0_passHours (wsV RX0 106 RX0 yX0_looks wsX0_looks) := goodIn_app (goodIn_of _ (by decide +kernel)) ggX0_passHours_X0_looks
set_option maxRecDepth 20000 in
theorem ggX0_passHours_X0_fade : GoodIn wsX0_passHours wsX0_fade := goodIn_r _ [65, 66, 2, 67, 68, 49, 50, 51, 69, 70, 71, 72, 73, 74, 75, 76, 77, 78, 79, 80, 81, 82, 83] (by decide +kernel) (by decide +kernel)
set_option maxRecDepth 20000 in
theorem gX0_passHours_X0_fade : GoodIn wsX0_passHours (wsV RX0 123 RX0 yX0_fade wsX0_fade) := goodIn_app (goodIn_of _ (by decide +kernel)) ggX0_passHours_X0_fade
theorem dX0_passHours_0 : decode cX0_passHours 0 = .ok (.iconst 0, 1) := by decide +kernel
theorem dX0_passHours_1 : decode cX0_passHours 1 = .ok (.istore_n 2, 1) := by decide +kernel
theorem dX0_passHours_2 : decode cX0_passHours 2 = .ok (.iconst 0, 1) := by decide +kernel
theorem dX0_passHours_3 : decode cX0_passHours 3 = .ok (.istore_n 3, 1) := by decide +kernel
theorem dX0_passHours_4 : decode cX0_passHours 4 = .ok (.iload_n 3, 1) := by decide +kernel
theorem dX0_passHours_5 : decode cX0_passHours 5 = .ok (.iload_n 1, 1) := by decide +kernel
theorem dX0_passHours_6 : decode cX0_passHours 6 = .ok (.if_icmp .ge 135, 3) := by decide +kernel
theorem dX0_passHours_9 : decode cX0_passHours 9 = .ok (.aload_n 0, 1) := by decide +kernel
theorem dX0_passHours_10 : decode cX0_passHours 10 = .ok (.getfield 65, 3) := by decide +kernel
theorem dX0_passHours_13 : decode cX0_passHours 13 = .ok (.bipush 6, 2) := by decide +kernel
theorem dX0_passHours_15 : decode cX0_passHours 15 = .ok (.irem, 1) := by decide +kernel
theorem dX0_passHours_16 : decode cX0_passHours 16 = .ok (.istore 4, 2) := by decide +kernel
theorem dX0_passHours_18 : decode cX0_passHours 18 = .ok (.iconst 0, 1) := by decide +kernel
theorem dX0_passHours_19 : decode cX0_passHours 19 = .ok (.istore 5, 2) := by decide +kernel
theorem dX0_passHours_21 : decode cX0_passHours 21 = .ok (.iload 5, 2) := by decide +kernel
theorem dX0_passHours_23 : decode cX0_passHours 23 = .ok (.bipush 8, 2) := by decide +kernel
theorem dX0_passHours_25 : decode cX0_passHours 25 = .ok (.if_icmp .ge 100, 3) := by decide +kernel
theorem dX0_passHours_28 : decode cX0_passHours 28 = .ok (.aload_n 0, 1) := by decide +kernel
theorem dX0_passHours_29 : decode cX0_passHours 29 = .ok (.getfield 33, 3) := by decide +kernel
theorem dX0_passHours_32 : decode cX0_passHours 32 = .ok (.iload 5, 2) := by decide +kernel
theorem dX0_passHours_34 : decode cX0_passHours 34 = .ok (.iaload, 1) := by decide +kernel
theorem dX0_passHours_35 : decode cX0_passHours 35 = .ok (.istore 6, 2) := by decide +kernel
theorem dX0_passHours_37 : decode cX0_passHours 37 = .ok (.iload 6, 2) := by decide +kernel
theorem dX0_passHours_39 : decode cX0_passHours 39 = .ok (.iconst (-1), 1) := by decide +kernel
theorem dX0_passHours_40 : decode cX0_passHours 40 = .ok (.if_icmp .eq 65, 3) := by decide +kernel
theorem dX0_passHours_43 : decode cX0_passHours 43 = .ok (.aload_n 0, 1) := by decide +kernel
theorem dX0_passHours_44 : decode cX0_passHours 44 = .ok (.getfield 15, 3) := by decide +kernel
theorem dX0_passHours_47 : decode cX0_passHours 47 = .ok (.iload 4, 2) := by decide +kernel
theorem dX0_passHours_49 : decode cX0_passHours 49 = .ok (.iaload, 1) := by decide +kernel
theorem dX0_passHours_50 : decode cX0_passHours 50 = .ok (.aload_n 0, 1) := by decide +kernel
theorem dX0_passHours_51 : decode cX0_passHours 51 = .ok (.iload 6, 2) := by decide +kernel
theorem dX0_passHours_53 : decode cX0_passHours 53 = .ok (.iload 4, 2) := by decide +kernel
theorem dX0_passHours_55 : decode cX0_passHours 55 = .ok (.invokevirtual 106, 3) := by decide +kernel
theorem dX0_passHours_58 : decode cX0_passHours 58 = .ok (.iadd, 1) := by decide +kernel
theorem dX0_passHours_59 : decode cX0_passHours 59 = .ok (.bipush 100, 2) := by decide +kernel
theorem dX0_passHours_61 : decode cX0_passHours 61 = .ok (.if_icmp .lt 44, 3) := by decide +kernel
theorem dX0_passHours_64 : decode cX0_passHours 64 = .ok (.iload_n 2, 1) := by decide +kernel
theorem dX0_passHours_65 : decode cX0_passHours 65 = .ok (.iconst 1, 1) := by decide +kernel
theorem dX0_passHours_66 : decode cX0_passHours 66 = .ok (.aload_n 0, 1) := by decide +kernel
theorem dX0_passHours_67 : decode cX0_passHours 67 = .ok (.getfield 36, 3) := by decide +kernel
theorem dX0_passHours_70 : decode cX0_passHours 70 = .ok (.iload 5, 2) := by decide +kernel
theorem dX0_passHours_72 : decode cX0_passHours 72 = .ok (.iaload, 1) := by decide +kernel
theorem dX0_passHours_73 : decode cX0_passHours 73 = .ok (.ishl, 1) := by decide +kernel
theorem dX0_passHours_74 : decode cX0_passHours 74 = .ok (.ior, 1) := by decide +kernel
theorem dX0_passHours_75 : decode cX0_passHours 75 = .ok (.istore_n 2, 1) := by decide +kernel
theorem dX0_passHours_76 : decode cX0_passHours 76 = .ok (.aload_n 0, 1) := by decide +kernel
theorem dX0_passHours_77 : decode cX0_passHours 77 = .ok (.dup, 1) := by decide +kernel
theorem dX0_passHours_78 : decode cX0_passHours 78 = .ok (.getfield 61, 3) := by decide +kernel
theorem dX0_passHours_81 : decode cX0_passHours 81 = .ok (.iconst 1, 1) := by decide +kernel
theorem dX0_passHours_82 : decode cX0_passHours 82 = .ok (.aload_n 0, 1) := by decide +kernel
theorem dX0_passHours_83 : decode cX0_passHours 83 = .ok (.getfield 36, 3) := by decide +kernel
theorem dX0_passHours_86 : decode cX0_passHours 86 = .ok (.iload 5, 2) := by decide +kernel
theorem dX0_passHours_88 : decode cX0_passHours 88 = .ok (.iaload, 1) := by decide +kernel
theorem dX0_passHours_89 : decode cX0_passHours 89 = .ok (.ishl, 1) := by decide +kernel
theorem dX0_passHours_90 : decode cX0_passHours 90 = .ok (.ior, 1) := by decide +kernel
theorem dX0_passHours_91 : decode cX0_passHours 91 = .ok (.putfield 61, 3) := by decide +kernel
theorem dX0_passHours_94 : decode cX0_passHours 94 = .ok (.aload_n 0, 1) := by decide +kernel
theorem dX0_passHours_95 : decode cX0_passHours 95 = .ok (.getfield 33, 3) := by decide +kernel
theorem dX0_passHours_98 : decode cX0_passHours 98 = .ok (.iload 5, 2) := by decide +kernel
theorem dX0_passHours_100 : decode cX0_passHours 100 = .ok (.iconst (-1), 1) := by decide +kernel
theorem dX0_passHours_101 : decode cX0_passHours 101 = .ok (.iastore, 1) := by decide +kernel
theorem dX0_passHours_102 : decode cX0_passHours 102 = .ok (.goto 17, 3) := by decide +kernel
theorem dX0_passHours_105 : decode cX0_passHours 105 = .ok (.iload 6, 2) := by decide +kernel
theorem dX0_passHours_107 : decode cX0_passHours 107 = .ok (.iconst (-1), 1) := by decide +kernel
theorem dX0_passHours_108 : decode cX0_passHours 108 = .ok (.if_icmp .eq 11, 3) := by decide +kernel
theorem dX0_passHours_111 : decode cX0_passHours 111 = .ok (.aload_n 0, 1) := by decide +kernel
theorem dX0_passHours_112 : decode cX0_passHours 112 = .ok (.iload 5, 2) := by decide +kernel
theorem dX0_passHours_114 : decode cX0_passHours 114 = .ok (.iload 6, 2) := by decide +kernel
theorem dX0_passHours_116 : decode cX0_passHours 116 = .ok (.invokevirtual 123, 3) := by decide +kernel
theorem dX0_passHours_119 : decode cX0_passHours 119 = .ok (.iinc 5 1, 3) := by decide +kernel
theorem dX0_passHours_122 : decode cX0_passHours 122 = .ok (.goto (-101), 3) := by decide +kernel
theorem dX0_passHours_125 : decode cX0_passHours 125 = .ok (.aload_n 0, 1) := by decide +kernel
theorem dX0_passHours_126 : decode cX0_passHours 126 = .ok (.dup, 1) := by decide +kernel
theorem dX0_passHours_127 : decode cX0_passHours 127 = .ok (.getfield 65, 3) := by decide +kernel
theorem dX0_passHours_130 : decode cX0_passHours 130 = .ok (.iconst 1, 1) := by decide +kernel
theorem dX0_passHours_131 : decode cX0_passHours 131 = .ok (.iadd, 1) := by decide +kernel
theorem dX0_passHours_132 : decode cX0_passHours 132 = .ok (.putfield 65, 3) := by decide +kernel
theorem dX0_passHours_135 : decode cX0_passHours 135 = .ok (.iinc 3 1, 3) := by decide +kernel
theorem dX0_passHours_138 : decode cX0_passHours 138 = .ok (.goto (-134), 3) := by decide +kernel
theorem dX0_passHours_141 : decode cX0_passHours 141 = .ok (.iload_n 2, 1) := by decide +kernel
theorem dX0_passHours_142 : decode cX0_passHours 142 = .ok (.ireturn, 1) := by decide +kernel
theorem dX0_fade_0 : decode cX0_fade 0 = .ok (.aload_n 0, 1) := by decide +kernel
theorem dX0_fade_1 : decode cX0_fade 1 = .ok (.getfield 39, 3) := by decide +kernel
theorem dX0_fade_4 : decode cX0_fade 4 = .ok (.iload_n 1, 1) := by decide +kernel
theorem dX0_fade_5 : decode cX0_fade 5 = .ok (.dup2, 1) := by decide +kernel
theorem dX0_fade_6 : decode cX0_fade 6 = .ok (.iaload, 1) := by decide +kernel
theorem dX0_fade_7 : decode cX0_fade 7 = .ok (.iconst 1, 1) := by decide +kernel
theorem dX0_fade_8 : decode cX0_fade 8 = .ok (.isub, 1) := by decide +kernel
theorem dX0_fade_9 : decode cX0_fade 9 = .ok (.iastore, 1) := by decide +kernel
theorem dX0_fade_10 : decode cX0_fade 10 = .ok (.aload_n 0, 1) := by decide +kernel
theorem dX0_fade_11 : decode cX0_fade 11 = .ok (.getfield 39, 3) := by decide +kernel
theorem dX0_fade_14 : decode cX0_fade 14 = .ok (.iload_n 1, 1) := by decide +kernel
theorem dX0_fade_15 : decode cX0_fade 15 = .ok (.iaload, 1) := by decide +kernel
theorem dX0_fade_16 : decode cX0_fade 16 = .ok (.ifCond .ne 29, 3) := by decide +kernel
theorem dX0_fade_19 : decode cX0_fade 19 = .ok (.aload_n 0, 1) := by decide +kernel
theorem dX0_fade_20 : decode cX0_fade 20 = .ok (.getfield 33, 3) := by decide +kernel
theorem dX0_fade_23 : decode cX0_fade 23 = .ok (.iload_n 1, 1) := by decide +kernel
theorem dX0_fade_24 : decode cX0_fade 24 = .ok (.iconst (-1), 1) := by decide +kernel
theorem dX0_fade_25 : decode cX0_fade 25 = .ok (.iastore, 1) := by decide +kernel
theorem dX0_fade_26 : decode cX0_fade 26 = .ok (.aload_n 0, 1) := by decide +kernel
theorem dX0_fade_27 : decode cX0_fade 27 = .ok (.getfield 30, 3) := by decide +kernel
theorem dX0_fade_30 : decode cX0_fade 30 = .ok (.iload_n 2, 1) := by decide +kernel
theorem dX0_fade_31 : decode cX0_fade 31 = .ok (.bipush 99, 2) := by decide +kernel
theorem dX0_fade_33 : decode cX0_fade 33 = .ok (.aload_n 0, 1) := by decide +kernel
theorem dX0_fade_34 : decode cX0_fade 34 = .ok (.getfield 30, 3) := by decide +kernel
theorem dX0_fade_37 : decode cX0_fade 37 = .ok (.iload_n 2, 1) := by decide +kernel
theorem dX0_fade_38 : decode cX0_fade 38 = .ok (.iaload, 1) := by decide +kernel
theorem dX0_fade_39 : decode cX0_fade 39 = .ok (.iconst 1, 1) := by decide +kernel
theorem dX0_fade_40 : decode cX0_fade 40 = .ok (.iadd, 1) := by decide +kernel
theorem dX0_fade_41 : decode cX0_fade 41 = .ok (.invokestatic 127, 3) := by decide +kernel
theorem dX0_fade_44 : decode cX0_fade 44 = .ok (.iastore, 1) := by decide +kernel
theorem dX0_fade_45 : decode cX0_fade 45 = .ok (.return_, 1) := by decide +kernel
set_option maxRecDepth 20000 in
theorem ggX0_named_J6_bitCount_0f7a4 : GoodIn wsX0_named wsJ6_bitCount_0f7a4 := goodIn_r _ [9, 10, 11, 12] (by decide +kernel) (by decide +kernel)
set_option maxRecDepth 20000 in
theorem gX0_named_J6_bitCount_0f7a4 : GoodIn wsX0_named (va_wsS RX0 98 yJ6_bitCount_0f7a4 wsJ6_bitCount_0f7a4) := goodIn_app (goodIn_of _ (by decide +kernel)) ggX0_named_J6_bitCount_0f7a4
set_option maxRecDepth 20000 in
theorem ggX0_named_X0_lying : GoodIn wsX0_named wsX0_lying := goodIn_r _ [17, 18, 19, 20, 21, 22, 23, 24, 25, 26, 27, 28, 29, 30, 31, 32, 33] (by decide +kernel) (by decide +kernel)
set_option maxRecDepth 20000 in
theorem gX0_named_X0_lying : GoodIn wsX0_named (wsV RX0 113 RX0 yX0_lying wsX0_lying) := goodIn_app (goodIn_of _ (by decide +kernel)) ggX0_named_X0_lying
theorem dX0_named_0 : decode cX0_named 0 = .ok (.iload_n 1, 1) := by decide +kernel
theorem dX0_named_1 : decode cX0_named 1 = .ok (.tableswitch 70 (-5) (-1) #[62, 57, 52, 42, 35], 35) := by decide +kernel
theorem dX0_named_36 : decode cX0_named 36 = .ok (.aload_n 0, 1) := by decide +kernel
theorem dX0_named_37 : decode cX0_named 37 = .ok (.getfield 27, 3) := by decide +kernel
theorem dX0_named_40 : decode cX0_named 40 = .ok (.iload_n 2, 1) := by decide +kernel
theorem dX0_named_41 : decode cX0_named 41 = .ok (.iaload, 1) := by decide +kernel
theorem dX0_named_42 : decode cX0_named 42 = .ok (.ireturn, 1) := by decide +kernel
theorem dX0_named_43 : decode cX0_named 43 = .ok (.aload_n 0, 1) := by decide +kernel
theorem dX0_named_44 : decode cX0_named 44 = .ok (.getfield 24, 3) := by decide +kernel
theorem dX0_named_47 : decode cX0_named 47 = .ok (.iload_n 2, 1) := by decide +kernel
theorem dX0_named_48 : decode cX0_named 48 = .ok (.iaload, 1) := by decide +kernel
theorem dX0_named_49 : decode cX0_named 49 = .ok (.invokestatic 98, 3) := by decide +kernel
theorem dX0_named_52 : decode cX0_named 52 = .ok (.ireturn, 1) := by decide +kernel
theorem dX0_named_53 : decode cX0_named 53 = .ok (.aload_n 0, 1) := by decide +kernel
theorem dX0_named_54 : decode cX0_named 54 = .ok (.getfield 65, 3) := by decide +kernel
theorem dX0_named_57 : decode cX0_named 57 = .ok (.ireturn, 1) := by decide +kernel
theorem dX0_named_58 : decode cX0_named 58 = .ok (.aload_n 0, 1) := by decide +kernel
theorem dX0_named_59 : decode cX0_named 59 = .ok (.invokevirtual 113, 3) := by decide +kernel
theorem dX0_named_62 : decode cX0_named 62 = .ok (.ireturn, 1) := by decide +kernel
theorem dX0_named_63 : decode cX0_named 63 = .ok (.aload_n 0, 1) := by decide +kernel
theorem dX0_named_64 : decode cX0_named 64 = .ok (.getfield 61, 3) := by decide +kernel
theorem dX0_named_67 : decode cX0_named 67 = .ok (.invokestatic 98, 3) := by decide +kernel
theorem dX0_named_70 : decode cX0_named 70 = .ok (.ireturn, 1) := by decide +kernel
theorem dX0_named_71 : decode cX0_named 71 = .ok (.aload_n 0, 1) := by decide +kernel
theorem dX0_named_72 : decode cX0_named 72 = .ok (.getfield 21, 3) := by decide +kernel
theorem dX0_named_75 : decode cX0_named 75 = .ok (.iload_n 2, 1) := by decide +kernel
theorem dX0_named_76 : decode cX0_named 76 = .ok (.iaload, 1) := by decide +kernel
theorem dX0_named_77 : decode cX0_named 77 = .ok (.ireturn, 1) := by decide +kernel
set_option maxRecDepth 20000 in
theorem ggX1_looksOf_X1_ladyLooks : GoodIn wsX1_looksOf wsX1_ladyLooks := goodIn_r _ [4] (by decide +kernel) (by decide +kernel)
set_option maxRecDepth 20000 in
theorem gX1_looksOf_X1_ladyLooks : GoodIn wsX1_looksOf (va_wsS RX1 9 yX1_ladyLooks wsX1_ladyLooks) := goodIn_app (goodIn_of _ (by decide +kernel)) ggX1_looksOf_X1_ladyLooks
theorem dX1_looksOf_0 : decode cX1_looksOf 0 = .ok (.iload_n 0, 1) := by decide +kernel
theorem dX1_looksOf_1 : decode cX1_looksOf 1 = .ok (.tableswitch 69 1 5 #[35, 61, 42, 61, 67], 35) := by decide +kernel
theorem dX1_looksOf_36 : decode cX1_looksOf 36 = .ok (.iload_n 1, 1) := by decide +kernel
theorem dX1_looksOf_37 : decode cX1_looksOf 37 = .ok (.iload_n 2, 1) := by decide +kernel
theorem dX1_looksOf_38 : decode cX1_looksOf 38 = .ok (.iload_n 3, 1) := by decide +kernel
theorem dX1_looksOf_39 : decode cX1_looksOf 39 = .ok (.invokestatic 9, 3) := by decide +kernel
theorem dX1_looksOf_42 : decode cX1_looksOf 42 = .ok (.ireturn, 1) := by decide +kernel
theorem dX1_looksOf_43 : decode cX1_looksOf 43 = .ok (.iload_n 1, 1) := by decide +kernel
theorem dX1_looksOf_44 : decode cX1_looksOf 44 = .ok (.iload_n 2, 1) := by decide +kernel
theorem dX1_looksOf_45 : decode cX1_looksOf 45 = .ok (.iload_n 3, 1) := by decide +kernel
theorem dX1_looksOf_46 : decode cX1_looksOf 46 = .ok (.invokestatic 9, 3) := by decide +kernel
theorem dX1_looksOf_49 : decode cX1_looksOf 49 = .ok (.iload_n 3, 1) := by decide +kernel
theorem dX1_looksOf_50 : decode cX1_looksOf 50 = .ok (.iconst 2, 1) := by decide +kernel
theorem dX1_looksOf_51 : decode cX1_looksOf 51 = .ok (.irem, 1) := by decide +kernel
theorem dX1_looksOf_52 : decode cX1_looksOf 52 = .ok (.ifCond .ne 7, 3) := by decide +kernel
theorem dX1_looksOf_55 : decode cX1_looksOf 55 = .ok (.iconst 2, 1) := by decide +kernel
theorem dX1_looksOf_56 : decode cX1_looksOf 56 = .ok (.goto 4, 3) := by decide +kernel
theorem dX1_looksOf_59 : decode cX1_looksOf 59 = .ok (.iconst 1, 1) := by decide +kernel
theorem dX1_looksOf_60 : decode cX1_looksOf 60 = .ok (.idiv, 1) := by decide +kernel
theorem dX1_looksOf_61 : decode cX1_looksOf 61 = .ok (.ireturn, 1) := by decide +kernel
theorem dX1_looksOf_62 : decode cX1_looksOf 62 = .ok (.iload_n 1, 1) := by decide +kernel
theorem dX1_looksOf_63 : decode cX1_looksOf 63 = .ok (.iconst 5, 1) := by decide +kernel
theorem dX1_looksOf_64 : decode cX1_looksOf 64 = .ok (.iload_n 2, 1) := by decide +kernel
theorem dX1_looksOf_65 : decode cX1_looksOf 65 = .ok (.imul, 1) := by decide +kernel
theorem dX1_looksOf_66 : decode cX1_looksOf 66 = .ok (.isub, 1) := by decide +kernel
theorem dX1_looksOf_67 : decode cX1_looksOf 67 = .ok (.ireturn, 1) := by decide +kernel
theorem dX1_looksOf_68 : decode cX1_looksOf 68 = .ok (.iconst 0, 1) := by decide +kernel
theorem dX1_looksOf_69 : decode cX1_looksOf 69 = .ok (.ireturn, 1) := by decide +kernel
theorem dX1_looksOf_70 : decode cX1_looksOf 70 = .ok (.iload_n 1, 1) := by decide +kernel
theorem dX1_looksOf_71 : decode cX1_looksOf 71 = .ok (.ireturn, 1) := by decide +kernel
theorem dX1_ladyLooks_0 : decode cX1_ladyLooks 0 = .ok (.iload_n 2, 1) := by decide +kernel
theorem dX1_ladyLooks_1 : decode cX1_ladyLooks 1 = .ok (.iload_n 1, 1) := by decide +kernel
theorem dX1_ladyLooks_2 : decode cX1_ladyLooks 2 = .ok (.bipush 6, 2) := by decide +kernel
theorem dX1_ladyLooks_4 : decode cX1_ladyLooks 4 = .ok (.irem, 1) := by decide +kernel
theorem dX1_ladyLooks_5 : decode cX1_ladyLooks 5 = .ok (.if_icmp .ne 8, 3) := by decide +kernel
theorem dX1_ladyLooks_8 : decode cX1_ladyLooks 8 = .ok (.bipush 99, 2) := by decide +kernel
theorem dX1_ladyLooks_10 : decode cX1_ladyLooks 10 = .ok (.goto 4, 3) := by decide +kernel
theorem dX1_ladyLooks_13 : decode cX1_ladyLooks 13 = .ok (.iload_n 0, 1) := by decide +kernel
theorem dX1_ladyLooks_14 : decode cX1_ladyLooks 14 = .ok (.ireturn, 1) := by decide +kernel
theorem dX1_waitsOf_0 : decode cX1_waitsOf 0 = .ok (.iload_n 0, 1) := by decide +kernel
theorem dX1_waitsOf_1 : decode cX1_waitsOf 1 = .ok (.tableswitch 64 1 5 #[35, 64, 39, 56, 60], 35) := by decide +kernel
theorem dX1_waitsOf_36 : decode cX1_waitsOf 36 = .ok (.iload_n 1, 1) := by decide +kernel
theorem dX1_waitsOf_37 : decode cX1_waitsOf 37 = .ok (.iconst 2, 1) := by decide +kernel
theorem dX1_waitsOf_38 : decode cX1_waitsOf 38 = .ok (.idiv, 1) := by decide +kernel
theorem dX1_waitsOf_39 : decode cX1_waitsOf 39 = .ok (.ireturn, 1) := by decide +kernel
theorem dX1_waitsOf_40 : decode cX1_waitsOf 40 = .ok (.iload_n 3, 1) := by decide +kernel
theorem dX1_waitsOf_41 : decode cX1_waitsOf 41 = .ok (.iconst 5, 1) := by decide +kernel
theorem dX1_waitsOf_42 : decode cX1_waitsOf 42 = .ok (.irem, 1) := by decide +kernel
theorem dX1_waitsOf_43 : decode cX1_waitsOf 43 = .ok (.ifCond .ne 8, 3) := by decide +kernel
theorem dX1_waitsOf_46 : decode cX1_waitsOf 46 = .ok (.bipush 99, 2) := by decide +kernel
theorem dX1_waitsOf_48 : decode cX1_waitsOf 48 = .ok (.goto 8, 3) := by decide +kernel
theorem dX1_waitsOf_51 : decode cX1_waitsOf 51 = .ok (.iload_n 1, 1) := by decide +kernel
theorem dX1_waitsOf_52 : decode cX1_waitsOf 52 = .ok (.iconst 2, 1) := by decide +kernel
theorem dX1_waitsOf_53 : decode cX1_waitsOf 53 = .ok (.idiv, 1) := by decide +kernel
theorem dX1_waitsOf_54 : decode cX1_waitsOf 54 = .ok (.iload_n 2, 1) := by decide +kernel
theorem dX1_waitsOf_55 : decode cX1_waitsOf 55 = .ok (.iadd, 1) := by decide +kernel
theorem dX1_waitsOf_56 : decode cX1_waitsOf 56 = .ok (.ireturn, 1) := by decide +kernel
theorem dX1_waitsOf_57 : decode cX1_waitsOf 57 = .ok (.iload_n 1, 1) := by decide +kernel
theorem dX1_waitsOf_58 : decode cX1_waitsOf 58 = .ok (.iconst 2, 1) := by decide +kernel
theorem dX1_waitsOf_59 : decode cX1_waitsOf 59 = .ok (.imul, 1) := by decide +kernel
theorem dX1_waitsOf_60 : decode cX1_waitsOf 60 = .ok (.ireturn, 1) := by decide +kernel
theorem dX1_waitsOf_61 : decode cX1_waitsOf 61 = .ok (.iconst 1, 1) := by decide +kernel
theorem dX1_waitsOf_62 : decode cX1_waitsOf 62 = .ok (.iload_n 2, 1) := by decide +kernel
theorem dX1_waitsOf_63 : decode cX1_waitsOf 63 = .ok (.iadd, 1) := by decide +kernel
theorem dX1_waitsOf_64 : decode cX1_waitsOf 64 = .ok (.ireturn, 1) := by decide +kernel
theorem dX1_waitsOf_65 : decode cX1_waitsOf 65 = .ok (.iload_n 1, 1) := by decide +kernel
theorem dX1_waitsOf_66 : decode cX1_waitsOf 66 = .ok (.ireturn, 1) := by decide +kernel
set_option maxRecDepth 20000 in
theorem ggX1_dropsOf_J9_floorMod_7cf53 : GoodIn wsX1_dropsOf wsJ9_floorMod_7cf53 := goodIn_r _ [8] (by decide +kernel) (by decide +kernel)
set_option maxRecDepth 20000 in
theorem gX1_dropsOf_J9_floorMod_7cf53 : GoodIn wsX1_dropsOf (va_wsS RX1 15 yJ9_floorMod_7cf53 wsJ9_floorMod_7cf53) := goodIn_app (goodIn_of _ (by decide +kernel)) ggX1_dropsOf_J9_floorMod_7cf53
theorem dX1_dropsOf_0 : decode cX1_dropsOf 0 = .ok (.iload_n 3, 1) := by decide +kernel
theorem dX1_dropsOf_1 : decode cX1_dropsOf 1 = .ok (.iconst 1, 1) := by decide +kernel
theorem dX1_dropsOf_2 : decode cX1_dropsOf 2 = .ok (.if_icmp .ge 5, 3) := by decide +kernel
theorem dX1_dropsOf_5 : decode cX1_dropsOf 5 = .ok (.iconst 0, 1) := by decide +kernel
theorem dX1_dropsOf_6 : decode cX1_dropsOf 6 = .ok (.ireturn, 1) := by decide +kernel
theorem dX1_dropsOf_7 : decode cX1_dropsOf 7 = .ok (.iload_n 1, 1) := by decide +kernel
theorem dX1_dropsOf_8 : decode cX1_dropsOf 8 = .ok (.iload_n 3, 1) := by decide +kernel
theorem dX1_dropsOf_9 : decode cX1_dropsOf 9 = .ok (.invokestatic 15, 3) := by decide +kernel
theorem dX1_dropsOf_12 : decode cX1_dropsOf 12 = .ok (.istore 4, 2) := by decide +kernel
theorem dX1_dropsOf_14 : decode cX1_dropsOf 14 = .ok (.iload_n 0, 1) := by decide +kernel
theorem dX1_dropsOf_15 : decode cX1_dropsOf 15 = .ok (.lookupswitch 45 #[(2, 25), (4, 32)], 25) := by decide +kernel
theorem dX1_dropsOf_40 : decode cX1_dropsOf 40 = .ok (.iload_n 3, 1) := by decide +kernel
theorem dX1_dropsOf_41 : decode cX1_dropsOf 41 = .ok (.iconst 1, 1) := by decide +kernel
theorem dX1_dropsOf_42 : decode cX1_dropsOf 42 = .ok (.isub, 1) := by decide +kernel
theorem dX1_dropsOf_43 : decode cX1_dropsOf 43 = .ok (.iload 4, 2) := by decide +kernel
theorem dX1_dropsOf_45 : decode cX1_dropsOf 45 = .ok (.isub, 1) := by decide +kernel
theorem dX1_dropsOf_46 : decode cX1_dropsOf 46 = .ok (.ireturn, 1) := by decide +kernel
theorem dX1_dropsOf_47 : decode cX1_dropsOf 47 = .ok (.iload_n 3, 1) := by decide +kernel
theorem dX1_dropsOf_48 : decode cX1_dropsOf 48 = .ok (.iconst 1, 1) := by decide +kernel
theorem dX1_dropsOf_49 : decode cX1_dropsOf 49 = .ok (.isub, 1) := by decide +kernel
theorem dX1_dropsOf_50 : decode cX1_dropsOf 50 = .ok (.iload 4, 2) := by decide +kernel
theorem dX1_dropsOf_52 : decode cX1_dropsOf 52 = .ok (.isub, 1) := by decide +kernel
theorem dX1_dropsOf_53 : decode cX1_dropsOf 53 = .ok (.iload_n 2, 1) := by decide +kernel
theorem dX1_dropsOf_54 : decode cX1_dropsOf 54 = .ok (.iload_n 3, 1) := by decide +kernel
theorem dX1_dropsOf_55 : decode cX1_dropsOf 55 = .ok (.irem, 1) := by decide +kernel
theorem dX1_dropsOf_56 : decode cX1_dropsOf 56 = .ok (.invokestatic 21, 3) := by decide +kernel
theorem dX1_dropsOf_59 : decode cX1_dropsOf 59 = .ok (.ireturn, 1) := by decide +kernel
theorem dX1_dropsOf_60 : decode cX1_dropsOf 60 = .ok (.iload 4, 2) := by decide +kernel
theorem dX1_dropsOf_62 : decode cX1_dropsOf 62 = .ok (.ireturn, 1) := by decide +kernel
theorem dX1_isOne_0 : decode cX1_isOne 0 = .ok (.iload_n 0, 1) := by decide +kernel
theorem dX1_isOne_1 : decode cX1_isOne 1 = .ok (.iconst 3, 1) := by decide +kernel
theorem dX1_isOne_2 : decode cX1_isOne 2 = .ok (.if_icmp .ne 7, 3) := by decide +kernel
theorem dX1_isOne_5 : decode cX1_isOne 5 = .ok (.iconst 1, 1) := by decide +kernel
theorem dX1_isOne_6 : decode cX1_isOne 6 = .ok (.goto 13, 3) := by decide +kernel
theorem dX1_isOne_9 : decode cX1_isOne 9 = .ok (.iload_n 0, 1) := by decide +kernel
theorem dX1_isOne_10 : decode cX1_isOne 10 = .ok (.iconst 4, 1) := by decide +kernel
theorem dX1_isOne_11 : decode cX1_isOne 11 = .ok (.if_icmp .ne 7, 3) := by decide +kernel
theorem dX1_isOne_14 : decode cX1_isOne 14 = .ok (.iconst 2, 1) := by decide +kernel
theorem dX1_isOne_15 : decode cX1_isOne 15 = .ok (.goto 4, 3) := by decide +kernel
theorem dX1_isOne_18 : decode cX1_isOne 18 = .ok (.iconst 0, 1) := by decide +kernel
theorem dX1_isOne_19 : decode cX1_isOne 19 = .ok (.istore_n 2, 1) := by decide +kernel
theorem dX1_isOne_20 : decode cX1_isOne 20 = .ok (.iload_n 0, 1) := by decide +kernel
theorem dX1_isOne_21 : decode cX1_isOne 21 = .ok (.iload_n 1, 1) := by decide +kernel
theorem dX1_isOne_22 : decode cX1_isOne 22 = .ok (.if_icmp .eq 12, 3) := by decide +kernel
theorem dX1_isOne_25 : decode cX1_isOne 25 = .ok (.iload_n 2, 1) := by decide +kernel
theorem dX1_isOne_26 : decode cX1_isOne 26 = .ok (.iload_n 1, 1) := by decide +kernel
theorem dX1_isOne_27 : decode cX1_isOne 27 = .ok (.if_icmp .eq 7, 3) := by decide +kernel
theorem dX1_isOne_30 : decode cX1_isOne 30 = .ok (.iload_n 1, 1) := by decide +kernel
theorem dX1_isOne_31 : decode cX1_isOne 31 = .ok (.ifCond .ne 7, 3) := by decide +kernel
theorem dX1_isOne_34 : decode cX1_isOne 34 = .ok (.iconst 1, 1) := by decide +kernel
theorem dX1_isOne_35 : decode cX1_isOne 35 = .ok (.goto 4, 3) := by decide +kernel
theorem dX1_isOne_38 : decode cX1_isOne 38 = .ok (.iconst 0, 1) := by decide +kernel
theorem dX1_isOne_39 : decode cX1_isOne 39 = .ok (.ireturn, 1) := by decide +kernel
theorem dX2_init_0 : decode cX2_init 0 = .ok (.aload_n 0, 1) := by decide +kernel
theorem dX2_init_1 : decode cX2_init 1 = .ok (.invokespecial 3, 3) := by decide +kernel
theorem dX2_init_4 : decode cX2_init 4 = .ok (.aload_n 0, 1) := by decide +kernel
theorem dX2_init_5 : decode cX2_init 5 = .ok (.iload_n 1, 1) := by decide +kernel
theorem dX2_init_6 : decode cX2_init 6 = .ok (.putfield 9, 3) := by decide +kernel
theorem dX2_init_9 : decode cX2_init 9 = .ok (.aload_n 0, 1) := by decide +kernel
theorem dX2_init_10 : decode cX2_init 10 = .ok (.aload_n 2, 1) := by decide +kernel
theorem dX2_init_11 : decode cX2_init 11 = .ok (.putfield 15, 3) := by decide +kernel
theorem dX2_init_14 : decode cX2_init 14 = .ok (.aload_n 0, 1) := by decide +kernel
theorem dX2_init_15 : decode cX2_init 15 = .ok (.iload_n 3, 1) := by decide +kernel
theorem dX2_init_16 : decode cX2_init 16 = .ok (.putfield 19, 3) := by decide +kernel
theorem dX2_init_19 : decode cX2_init 19 = .ok (.aload_n 0, 1) := by decide +kernel
theorem dX2_init_20 : decode cX2_init 20 = .ok (.iload 4, 2) := by decide +kernel
theorem dX2_init_22 : decode cX2_init 22 = .ok (.putfield 22, 3) := by decide +kernel
theorem dX2_init_25 : decode cX2_init 25 = .ok (.return_, 1) := by decide +kernel
set_option maxRecDepth 20000 in
theorem ggX2_says_X0_named : GoodIn wsX2_says wsX0_named := goodIn_r _ [8, 9, 10, 11, 12, 13, 14, 15, 16, 17, 18, 19, 20, 21, 22, 23, 7, 24, 25, 43, 44, 45, 46, 47, 48, 49, 50, 51, 52, 53, 54, 55, 56, 57] (by decide +kernel) (by decide +kernel)
set_option maxRecDepth 20000 in
theorem gX2_says_X0_named : GoodIn wsX2_says (wsV RX2 30 RX0 yX0_named wsX0_named) := goodIn_app (goodIn_of _ (by decide +kernel)) ggX2_says_X0_named
set_option maxRecDepth 20000 in
theorem ggX2_says_X2_truth : GoodIn wsX2_says wsX2_truth := goodIn_r _ [29] (by decide +kernel) (by decide +kernel)
set_option maxRecDepth 20000 in
theorem gX2_says_X2_truth : GoodIn wsX2_says (va_wsS RX2 34 yX2_truth wsX2_truth) := goodIn_app (goodIn_of _ (by decide +kernel)) ggX2_says_X2_truth
set_option maxRecDepth 20000 in
theorem ggX2_says_X2_joined : GoodIn wsX2_says wsX2_joined := goodIn_r _ [32, 26, 27, 28, 29] (by decide +kernel) (by decide +kernel)
set_option maxRecDepth 20000 in
theorem gX2_says_X2_joined : GoodIn wsX2_says (va_wsS RX2 38 yX2_joined wsX2_joined) := goodIn_app (goodIn_of _ (by decide +kernel)) ggX2_says_X2_joined
set_option maxRecDepth 20000 in
theorem ggX2_says_X5_bounded : GoodIn wsX2_says wsX5_bounded := goodIn_r _ [35, 36, 37, 38, 39, 40, 41, 42] (by decide +kernel) (by decide +kernel)
set_option maxRecDepth 20000 in
theorem gX2_says_X5_bounded_n42 : GoodIn wsX2_says (wsX5_bounded) := ggX2_says_X5_bounded
theorem dX2_says_0 : decode cX2_says 0 = .ok (.aload_n 2, 1) := by decide +kernel
theorem dX2_says_1 : decode cX2_says 1 = .ok (.getfield 25, 3) := by decide +kernel
theorem dX2_says_4 : decode cX2_says 4 = .ok (.astore 4, 2) := by decide +kernel
theorem dX2_says_6 : decode cX2_says 6 = .ok (.iload_n 1, 1) := by decide +kernel
theorem dX2_says_7 : decode cX2_says 7 = .ok (.ifCond .ne 7, 3) := by decide +kernel
theorem dX2_says_10 : decode cX2_says 10 = .ok (.iconst 0, 1) := by decide +kernel
theorem dX2_says_11 : decode cX2_says 11 = .ok (.goto 19, 3) := by decide +kernel
theorem dX2_says_14 : decode cX2_says 14 = .ok (.iload_n 1, 1) := by decide +kernel
theorem dX2_says_15 : decode cX2_says 15 = .ok (.iconst 1, 1) := by decide +kernel
theorem dX2_says_16 : decode cX2_says 16 = .ok (.if_icmp .ne 10, 3) := by decide +kernel
theorem dX2_says_19 : decode cX2_says 19 = .ok (.aload_n 0, 1) := by decide +kernel
theorem dX2_says_20 : decode cX2_says 20 = .ok (.getfield 19, 3) := by decide +kernel
theorem dX2_says_23 : decode cX2_says 23 = .ok (.goto 7, 3) := by decide +kernel
theorem dX2_says_26 : decode cX2_says 26 = .ok (.aload_n 0, 1) := by decide +kernel
theorem dX2_says_27 : decode cX2_says 27 = .ok (.getfield 22, 3) := by decide +kernel
theorem dX2_says_30 : decode cX2_says 30 = .ok (.istore 5, 2) := by decide +kernel
theorem dX2_says_32 : decode cX2_says 32 = .ok (.iload_n 1, 1) := by decide +kernel
theorem dX2_says_33 : decode cX2_says 33 = .ok (.ifCond .ne 10, 3) := by decide +kernel
theorem dX2_says_36 : decode cX2_says 36 = .ok (.aload_n 0, 1) := by decide +kernel
theorem dX2_says_37 : decode cX2_says 37 = .ok (.getfield 19, 3) := by decide +kernel
theorem dX2_says_40 : decode cX2_says 40 = .ok (.goto 20, 3) := by decide +kernel
theorem dX2_says_43 : decode cX2_says 43 = .ok (.iload_n 1, 1) := by decide +kernel
theorem dX2_says_44 : decode cX2_says 44 = .ok (.iconst 1, 1) := by decide +kernel
theorem dX2_says_45 : decode cX2_says 45 = .ok (.if_icmp .ne 10, 3) := by decide +kernel
theorem dX2_says_48 : decode cX2_says 48 = .ok (.aload_n 0, 1) := by decide +kernel
theorem dX2_says_49 : decode cX2_says 49 = .ok (.getfield 22, 3) := by decide +kernel
theorem dX2_says_52 : decode cX2_says 52 = .ok (.goto 8, 3) := by decide +kernel
theorem dX2_says_55 : decode cX2_says 55 = .ok (.aload_n 0, 1) := by decide +kernel
theorem dX2_says_56 : decode cX2_says 56 = .ok (.getfield 15, 3) := by decide +kernel
theorem dX2_says_59 : decode cX2_says 59 = .ok (.arraylength, 1) := by decide +kernel
theorem dX2_says_60 : decode cX2_says 60 = .ok (.istore 6, 2) := by decide +kernel
theorem dX2_says_62 : decode cX2_says 62 = .ok (.iconst 0, 1) := by decide +kernel
theorem dX2_says_63 : decode cX2_says 63 = .ok (.istore 7, 2) := by decide +kernel
theorem dX2_says_65 : decode cX2_says 65 = .ok (.iload 5, 2) := by decide +kernel
theorem dX2_says_67 : decode cX2_says 67 = .ok (.istore 8, 2) := by decide +kernel
theorem dX2_says_69 : decode cX2_says 69 = .ok (.iload 8, 2) := by decide +kernel
theorem dX2_says_71 : decode cX2_says 71 = .ok (.iload 6, 2) := by decide +kernel
theorem dX2_says_73 : decode cX2_says 73 = .ok (.if_icmp .ge 155, 3) := by decide +kernel
theorem dX2_says_76 : decode cX2_says 76 = .ok (.iload 7, 2) := by decide +kernel
theorem dX2_says_78 : decode cX2_says 78 = .ok (.aload 4, 2) := by decide +kernel
theorem dX2_says_80 : decode cX2_says 80 = .ok (.arraylength, 1) := by decide +kernel
theorem dX2_says_81 : decode cX2_says 81 = .ok (.if_icmp .ge 147, 3) := by decide +kernel
theorem dX2_says_84 : decode cX2_says 84 = .ok (.aload_n 0, 1) := by decide +kernel
theorem dX2_says_85 : decode cX2_says 85 = .ok (.getfield 15, 3) := by decide +kernel
theorem dX2_says_88 : decode cX2_says 88 = .ok (.iload 8, 2) := by decide +kernel
theorem dX2_says_90 : decode cX2_says 90 = .ok (.iaload, 1) := by decide +kernel
theorem dX2_says_91 : decode cX2_says 91 = .ok (.istore 9, 2) := by decide +kernel
theorem dX2_says_93 : decode cX2_says 93 = .ok (.iload 9, 2) := by decide +kernel
theorem dX2_says_95 : decode cX2_says 95 = .ok (.bipush (-6), 2) := by decide +kernel
theorem dX2_says_97 : decode cX2_says 97 = .ok (.if_icmp .lt 31, 3) := by decide +kernel
theorem dX2_says_100 : decode cX2_says 100 = .ok (.aload 4, 2) := by decide +kernel
theorem dX2_says_102 : decode cX2_says 102 = .ok (.iload 7, 2) := by decide +kernel
theorem dX2_says_104 : decode cX2_says 104 = .ok (.iload 9, 2) := by decide +kernel
theorem dX2_says_106 : decode cX2_says 106 = .ok (.ifCond .lt 8, 3) := by decide +kernel
theorem dX2_says_109 : decode cX2_says 109 = .ok (.iload 9, 2) := by decide +kernel
theorem dX2_says_111 : decode cX2_says 111 = .ok (.goto 10, 3) := by decide +kernel
theorem dX2_says_114 : decode cX2_says 114 = .ok (.aload_n 2, 1) := by decide +kernel
theorem dX2_says_115 : decode cX2_says 115 = .ok (.iload 9, 2) := by decide +kernel
theorem dX2_says_117 : decode cX2_says 117 = .ok (.iload_n 3, 1) := by decide +kernel
theorem dX2_says_118 : decode cX2_says 118 = .ok (.invokevirtual 30, 3) := by decide +kernel
theorem dX2_says_121 : decode cX2_says 121 = .ok (.iastore, 1) := by decide +kernel
theorem dX2_says_122 : decode cX2_says 122 = .ok (.iinc 7 1, 3) := by decide +kernel
theorem dX2_says_125 : decode cX2_says 125 = .ok (.goto 97, 3) := by decide +kernel
theorem dX2_says_128 : decode cX2_says 128 = .ok (.iload 9, 2) := by decide +kernel
theorem dX2_says_130 : decode cX2_says 130 = .ok (.bipush (-8), 2) := by decide +kernel
theorem dX2_says_132 : decode cX2_says 132 = .ok (.if_icmp .lt 55, 3) := by decide +kernel
theorem dX2_says_135 : decode cX2_says 135 = .ok (.iload 7, 2) := by decide +kernel
theorem dX2_says_137 : decode cX2_says 137 = .ok (.iconst 1, 1) := by decide +kernel
theorem dX2_says_138 : decode cX2_says 138 = .ok (.if_icmp .lt 49, 3) := by decide +kernel
theorem dX2_says_141 : decode cX2_says 141 = .ok (.aload 4, 2) := by decide +kernel
theorem dX2_says_143 : decode cX2_says 143 = .ok (.iload 7, 2) := by decide +kernel
theorem dX2_says_145 : decode cX2_says 145 = .ok (.iconst 1, 1) := by decide +kernel
theorem dX2_says_146 : decode cX2_says 146 = .ok (.isub, 1) := by decide +kernel
theorem dX2_says_147 : decode cX2_says 147 = .ok (.iload 9, 2) := by decide +kernel
theorem dX2_says_149 : decode cX2_says 149 = .ok (.bipush (-7), 2) := by decide +kernel
theorem dX2_says_151 : decode cX2_says 151 = .ok (.if_icmp .ne 14, 3) := by decide +kernel
theorem dX2_says_154 : decode cX2_says 154 = .ok (.aload 4, 2) := by decide +kernel
theorem dX2_says_156 : decode cX2_says 156 = .ok (.iload 7, 2) := by decide +kernel
theorem dX2_says_158 : decode cX2_says 158 = .ok (.iconst 1, 1) := by decide +kernel
theorem dX2_says_159 : decode cX2_says 159 = .ok (.isub, 1) := by decide +kernel
theorem dX2_says_160 : decode cX2_says 160 = .ok (.iaload, 1) := by decide +kernel
theorem dX2_says_161 : decode cX2_says 161 = .ok (.ineg, 1) := by decide +kernel
theorem dX2_says_162 : decode cX2_says 162 = .ok (.goto 21, 3) := by decide +kernel
theorem dX2_says_165 : decode cX2_says 165 = .ok (.aload 4, 2) := by decide +kernel
theorem dX2_says_167 : decode cX2_says 167 = .ok (.iload 7, 2) := by decide +kernel
theorem dX2_says_169 : decode cX2_says 169 = .ok (.iconst 1, 1) := by decide +kernel
theorem dX2_says_170 : decode cX2_says 170 = .ok (.isub, 1) := by decide +kernel
theorem dX2_says_171 : decode cX2_says 171 = .ok (.iaload, 1) := by decide +kernel
theorem dX2_says_172 : decode cX2_says 172 = .ok (.ifCond .ne 7, 3) := by decide +kernel
theorem dX2_says_175 : decode cX2_says 175 = .ok (.iconst 1, 1) := by decide +kernel
theorem dX2_says_176 : decode cX2_says 176 = .ok (.goto 4, 3) := by decide +kernel
theorem dX2_says_179 : decode cX2_says 179 = .ok (.iconst 0, 1) := by decide +kernel
theorem dX2_says_180 : decode cX2_says 180 = .ok (.invokestatic 34, 3) := by decide +kernel
theorem dX2_says_183 : decode cX2_says 183 = .ok (.iastore, 1) := by decide +kernel
theorem dX2_says_184 : decode cX2_says 184 = .ok (.goto 38, 3) := by decide +kernel
theorem dX2_says_187 : decode cX2_says 187 = .ok (.iload 7, 2) := by decide +kernel
theorem dX2_says_189 : decode cX2_says 189 = .ok (.iconst 2, 1) := by decide +kernel
theorem dX2_says_190 : decode cX2_says 190 = .ok (.if_icmp .lt 32, 3) := by decide +kernel
theorem dX2_says_193 : decode cX2_says 193 = .ok (.aload 4, 2) := by decide +kernel
theorem dX2_says_195 : decode cX2_says 195 = .ok (.iload 7, 2) := by decide +kernel
theorem dX2_says_197 : decode cX2_says 197 = .ok (.iconst 2, 1) := by decide +kernel
theorem dX2_says_198 : decode cX2_says 198 = .ok (.isub, 1) := by decide +kernel
theorem dX2_says_199 : decode cX2_says 199 = .ok (.iload 9, 2) := by decide +kernel
theorem dX2_says_201 : decode cX2_says 201 = .ok (.aload 4, 2) := by decide +kernel
theorem dX2_says_203 : decode cX2_says 203 = .ok (.iload 7, 2) := by decide +kernel
theorem dX2_says_205 : decode cX2_says 205 = .ok (.iconst 2, 1) := by decide +kernel
theorem dX2_says_206 : decode cX2_says 206 = .ok (.isub, 1) := by decide +kernel
theorem dX2_says_207 : decode cX2_says 207 = .ok (.iaload, 1) := by decide +kernel
theorem dX2_says_208 : decode cX2_says 208 = .ok (.aload 4, 2) := by decide +kernel
theorem dX2_says_210 : decode cX2_says 210 = .ok (.iload 7, 2) := by decide +kernel
theorem dX2_says_212 : decode cX2_says 212 = .ok (.iconst 1, 1) := by decide +kernel
theorem dX2_says_213 : decode cX2_says 213 = .ok (.isub, 1) := by decide +kernel
theorem dX2_says_214 : decode cX2_says 214 = .ok (.iaload, 1) := by decide +kernel
theorem dX2_says_215 : decode cX2_says 215 = .ok (.invokestatic 38, 3) := by decide +kernel
theorem dX2_says_218 : decode cX2_says 218 = .ok (.iastore, 1) := by decide +kernel
theorem dX2_says_219 : decode cX2_says 219 = .ok (.iinc 7 (-1), 3) := by decide +kernel
theorem dX2_says_222 : decode cX2_says 222 = .ok (.iinc 8 1, 3) := by decide +kernel
theorem dX2_says_225 : decode cX2_says 225 = .ok (.goto (-156), 3) := by decide +kernel
theorem dX2_says_228 : decode cX2_says 228 = .ok (.iload 7, 2) := by decide +kernel
theorem dX2_says_230 : decode cX2_says 230 = .ok (.ifCond .le 10, 3) := by decide +kernel
theorem dX2_says_233 : decode cX2_says 233 = .ok (.aload 4, 2) := by decide +kernel
theorem dX2_says_235 : decode cX2_says 235 = .ok (.iconst 0, 1) := by decide +kernel
theorem dX2_says_236 : decode cX2_says 236 = .ok (.iaload, 1) := by decide +kernel
theorem dX2_says_237 : decode cX2_says 237 = .ok (.goto 4, 3) := by decide +kernel
theorem dX2_says_240 : decode cX2_says 240 = .ok (.iconst 0, 1) := by decide +kernel
theorem dX2_says_241 : decode cX2_says 241 = .ok (.iload_n 1, 1) := by decide +kernel
theorem dX2_says_242 : decode cX2_says 242 = .ok (.iconst 2, 1) := by decide +kernel
theorem dX2_says_243 : decode cX2_says 243 = .ok (.if_icmp .ne 8, 3) := by decide +kernel
theorem dX2_says_246 : decode cX2_says 246 = .ok (.bipush (-99), 2) := by decide +kernel
theorem dX2_says_248 : decode cX2_says 248 = .ok (.goto 4, 3) := by decide +kernel
theorem dX2_says_251 : decode cX2_says 251 = .ok (.iconst 0, 1) := by decide +kernel
theorem dX2_says_252 : decode cX2_says 252 = .ok (.bipush 99, 2) := by decide +kernel
theorem dX2_says_254 : decode cX2_says 254 = .ok (.invokestatic 42, 3) := by decide +kernel
theorem dX2_says_257 : decode cX2_says 257 = .ok (.ireturn, 1) := by decide +kernel
set_option maxRecDepth 20000 in
theorem ggX2_joined_X2_truth : GoodIn wsX2_joined wsX2_truth := goodIn_r _ [4] (by decide +kernel) (by decide +kernel)
set_option maxRecDepth 20000 in
theorem gX2_joined_X2_truth : GoodIn wsX2_joined (va_wsS RX2 34 yX2_truth wsX2_truth) := goodIn_app (goodIn_of _ (by decide +kernel)) ggX2_joined_X2_truth
theorem dX2_joined_0 : decode cX2_joined 0 = .ok (.iload_n 0, 1) := by decide +kernel
theorem dX2_joined_1 : decode cX2_joined 1 = .ok (.tableswitch 96 (-14) (-9) #[79, 65, 51, 47, 43, 39], 39) := by decide +kernel
theorem dX2_joined_40 : decode cX2_joined 40 = .ok (.iload_n 1, 1) := by decide +kernel
theorem dX2_joined_41 : decode cX2_joined 41 = .ok (.iload_n 2, 1) := by decide +kernel
theorem dX2_joined_42 : decode cX2_joined 42 = .ok (.iadd, 1) := by decide +kernel
theorem dX2_joined_43 : decode cX2_joined 43 = .ok (.ireturn, 1) := by decide +kernel
theorem dX2_joined_44 : decode cX2_joined 44 = .ok (.iload_n 1, 1) := by decide +kernel
theorem dX2_joined_45 : decode cX2_joined 45 = .ok (.iload_n 2, 1) := by decide +kernel
theorem dX2_joined_46 : decode cX2_joined 46 = .ok (.isub, 1) := by decide +kernel
theorem dX2_joined_47 : decode cX2_joined 47 = .ok (.ireturn, 1) := by decide +kernel
theorem dX2_joined_48 : decode cX2_joined 48 = .ok (.iload_n 1, 1) := by decide +kernel
theorem dX2_joined_49 : decode cX2_joined 49 = .ok (.iload_n 2, 1) := by decide +kernel
theorem dX2_joined_50 : decode cX2_joined 50 = .ok (.imul, 1) := by decide +kernel
theorem dX2_joined_51 : decode cX2_joined 51 = .ok (.ireturn, 1) := by decide +kernel
theorem dX2_joined_52 : decode cX2_joined 52 = .ok (.iload_n 1, 1) := by decide +kernel
theorem dX2_joined_53 : decode cX2_joined 53 = .ok (.iload_n 2, 1) := by decide +kernel
theorem dX2_joined_54 : decode cX2_joined 54 = .ok (.if_icmp .ge 7, 3) := by decide +kernel
theorem dX2_joined_57 : decode cX2_joined 57 = .ok (.iconst 1, 1) := by decide +kernel
theorem dX2_joined_58 : decode cX2_joined 58 = .ok (.goto 4, 3) := by decide +kernel
theorem dX2_joined_61 : decode cX2_joined 61 = .ok (.iconst 0, 1) := by decide +kernel
theorem dX2_joined_62 : decode cX2_joined 62 = .ok (.invokestatic 34, 3) := by decide +kernel
theorem dX2_joined_65 : decode cX2_joined 65 = .ok (.ireturn, 1) := by decide +kernel
theorem dX2_joined_66 : decode cX2_joined 66 = .ok (.iload_n 1, 1) := by decide +kernel
theorem dX2_joined_67 : decode cX2_joined 67 = .ok (.iload_n 2, 1) := by decide +kernel
theorem dX2_joined_68 : decode cX2_joined 68 = .ok (.if_icmp .ne 7, 3) := by decide +kernel
theorem dX2_joined_71 : decode cX2_joined 71 = .ok (.iconst 1, 1) := by decide +kernel
theorem dX2_joined_72 : decode cX2_joined 72 = .ok (.goto 4, 3) := by decide +kernel
theorem dX2_joined_75 : decode cX2_joined 75 = .ok (.iconst 0, 1) := by decide +kernel
theorem dX2_joined_76 : decode cX2_joined 76 = .ok (.invokestatic 34, 3) := by decide +kernel
theorem dX2_joined_79 : decode cX2_joined 79 = .ok (.ireturn, 1) := by decide +kernel
theorem dX2_joined_80 : decode cX2_joined 80 = .ok (.iload_n 1, 1) := by decide +kernel
theorem dX2_joined_81 : decode cX2_joined 81 = .ok (.ifCond .eq 11, 3) := by decide +kernel
theorem dX2_joined_84 : decode cX2_joined 84 = .ok (.iload_n 2, 1) := by decide +kernel
theorem dX2_joined_85 : decode cX2_joined 85 = .ok (.ifCond .eq 7, 3) := by decide +kernel
theorem dX2_joined_88 : decode cX2_joined 88 = .ok (.iconst 1, 1) := by decide +kernel
theorem dX2_joined_89 : decode cX2_joined 89 = .ok (.goto 4, 3) := by decide +kernel
theorem dX2_joined_92 : decode cX2_joined 92 = .ok (.iconst 0, 1) := by decide +kernel
theorem dX2_joined_93 : decode cX2_joined 93 = .ok (.invokestatic 34, 3) := by decide +kernel
theorem dX2_joined_96 : decode cX2_joined 96 = .ok (.ireturn, 1) := by decide +kernel
theorem dX2_joined_97 : decode cX2_joined 97 = .ok (.iload_n 1, 1) := by decide +kernel
theorem dX2_joined_98 : decode cX2_joined 98 = .ok (.ifCond .ne 7, 3) := by decide +kernel
theorem dX2_joined_101 : decode cX2_joined 101 = .ok (.iload_n 2, 1) := by decide +kernel
theorem dX2_joined_102 : decode cX2_joined 102 = .ok (.ifCond .eq 7, 3) := by decide +kernel
theorem dX2_joined_105 : decode cX2_joined 105 = .ok (.iconst 1, 1) := by decide +kernel
theorem dX2_joined_106 : decode cX2_joined 106 = .ok (.goto 4, 3) := by decide +kernel
theorem dX2_joined_109 : decode cX2_joined 109 = .ok (.iconst 0, 1) := by decide +kernel
theorem dX2_joined_110 : decode cX2_joined 110 = .ok (.invokestatic 34, 3) := by decide +kernel
theorem dX2_joined_113 : decode cX2_joined 113 = .ok (.ireturn, 1) := by decide +kernel
theorem dX2_truth_0 : decode cX2_truth 0 = .ok (.iload_n 0, 1) := by decide +kernel
theorem dX2_truth_1 : decode cX2_truth 1 = .ok (.ifCond .eq 7, 3) := by decide +kernel
theorem dX2_truth_4 : decode cX2_truth 4 = .ok (.iconst 1, 1) := by decide +kernel
theorem dX2_truth_5 : decode cX2_truth 5 = .ok (.goto 4, 3) := by decide +kernel
theorem dX2_truth_8 : decode cX2_truth 8 = .ok (.iconst 0, 1) := by decide +kernel
theorem dX2_truth_9 : decode cX2_truth 9 = .ok (.ireturn, 1) := by decide +kernel
theorem dX3_init_0 : decode cX3_init 0 = .ok (.aload_n 0, 1) := by decide +kernel
theorem dX3_init_1 : decode cX3_init 1 = .ok (.invokespecial 3, 3) := by decide +kernel
theorem dX3_init_4 : decode cX3_init 4 = .ok (.aload_n 0, 1) := by decide +kernel
theorem dX3_init_5 : decode cX3_init 5 = .ok (.bipush 40, 2) := by decide +kernel
theorem dX3_init_7 : decode cX3_init 7 = .ok (.newarray .int, 2) := by decide +kernel
theorem dX3_init_9 : decode cX3_init 9 = .ok (.putfield 9, 3) := by decide +kernel
theorem dX3_init_12 : decode cX3_init 12 = .ok (.aload_n 0, 1) := by decide +kernel
theorem dX3_init_13 : decode cX3_init 13 = .ok (.iconst (-1), 1) := by decide +kernel
theorem dX3_init_14 : decode cX3_init 14 = .ok (.putfield 15, 3) := by decide +kernel
theorem dX3_init_17 : decode cX3_init 17 = .ok (.return_, 1) := by decide +kernel
theorem dX3_isMissing_0 : decode cX3_isMissing 0 = .ok (.aload_n 0, 1) := by decide +kernel
theorem dX3_isMissing_1 : decode cX3_isMissing 1 = .ok (.getfield 15, 3) := by decide +kernel
theorem dX3_isMissing_4 : decode cX3_isMissing 4 = .ok (.iconst (-1), 1) := by decide +kernel
theorem dX3_isMissing_5 : decode cX3_isMissing 5 = .ok (.if_icmp .ne 7, 3) := by decide +kernel
theorem dX3_isMissing_8 : decode cX3_isMissing 8 = .ok (.iconst 1, 1) := by decide +kernel
theorem dX3_isMissing_9 : decode cX3_isMissing 9 = .ok (.goto 4, 3) := by decide +kernel
theorem dX3_isMissing_12 : decode cX3_isMissing 12 = .ok (.iconst 0, 1) := by decide +kernel
theorem dX3_isMissing_13 : decode cX3_isMissing 13 = .ok (.ireturn, 1) := by decide +kernel
set_option maxRecDepth 20000 in
theorem ggX3_begin_J7_fill_53178 : GoodIn wsX3_begin wsJ7_fill_53178 := goodIn_r _ [7] (by decide +kernel) (by decide +kernel)
set_option maxRecDepth 20000 in
theorem gX3_begin_J7_fill_53178 : GoodIn wsX3_begin (va_wsS RX3 22 yJ7_fill_53178 wsJ7_fill_53178) := goodIn_app (goodIn_of _ (by decide +kernel)) ggX3_begin_J7_fill_53178
theorem dX3_begin_0 : decode cX3_begin 0 = .ok (.aload_n 0, 1) := by decide +kernel
theorem dX3_begin_1 : decode cX3_begin 1 = .ok (.iload_n 1, 1) := by decide +kernel
theorem dX3_begin_2 : decode cX3_begin 2 = .ok (.putfield 15, 3) := by decide +kernel
theorem dX3_begin_5 : decode cX3_begin 5 = .ok (.aload_n 0, 1) := by decide +kernel
theorem dX3_begin_6 : decode cX3_begin 6 = .ok (.iload_n 2, 1) := by decide +kernel
theorem dX3_begin_7 : decode cX3_begin 7 = .ok (.putfield 19, 3) := by decide +kernel
theorem dX3_begin_10 : decode cX3_begin 10 = .ok (.aload_n 0, 1) := by decide +kernel
theorem dX3_begin_11 : decode cX3_begin 11 = .ok (.getfield 9, 3) := by decide +kernel
theorem dX3_begin_14 : decode cX3_begin 14 = .ok (.iconst 0, 1) := by decide +kernel
theorem dX3_begin_15 : decode cX3_begin 15 = .ok (.invokestatic 22, 3) := by decide +kernel
theorem dX3_begin_18 : decode cX3_begin 18 = .ok (.return_, 1) := by decide +kernel
theorem dX3_become_0 : decode cX3_become 0 = .ok (.aload_n 0, 1) := by decide +kernel
theorem dX3_become_1 : decode cX3_become 1 = .ok (.getfield 9, 3) := by decide +kernel
theorem dX3_become_4 : decode cX3_become 4 = .ok (.iload_n 1, 1) := by decide +kernel
theorem dX3_become_5 : decode cX3_become 5 = .ok (.aload_n 0, 1) := by decide +kernel
theorem dX3_become_6 : decode cX3_become 6 = .ok (.getfield 15, 3) := by decide +kernel
theorem dX3_become_9 : decode cX3_become 9 = .ok (.ifCond .ne 8, 3) := by decide +kernel
theorem dX3_become_12 : decode cX3_become 12 = .ok (.iload_n 2, 1) := by decide +kernel
theorem dX3_become_13 : decode cX3_become 13 = .ok (.i2b, 1) := by decide +kernel
theorem dX3_become_14 : decode cX3_become 14 = .ok (.goto 17, 3) := by decide +kernel
theorem dX3_become_17 : decode cX3_become 17 = .ok (.aload_n 0, 1) := by decide +kernel
theorem dX3_become_18 : decode cX3_become 18 = .ok (.getfield 15, 3) := by decide +kernel
theorem dX3_become_21 : decode cX3_become 21 = .ok (.iconst 1, 1) := by decide +kernel
theorem dX3_become_22 : decode cX3_become 22 = .ok (.if_icmp .ne 8, 3) := by decide +kernel
theorem dX3_become_25 : decode cX3_become 25 = .ok (.iload_n 2, 1) := by decide +kernel
theorem dX3_become_26 : decode cX3_become 26 = .ok (.i2s, 1) := by decide +kernel
theorem dX3_become_27 : decode cX3_become 27 = .ok (.goto 4, 3) := by decide +kernel
theorem dX3_become_30 : decode cX3_become 30 = .ok (.iload_n 2, 1) := by decide +kernel
theorem dX3_become_31 : decode cX3_become 31 = .ok (.iastore, 1) := by decide +kernel
theorem dX3_become_32 : decode cX3_become 32 = .ok (.return_, 1) := by decide +kernel
theorem dX3_has_0 : decode cX3_has 0 = .ok (.iload_n 1, 1) := by decide +kernel
theorem dX3_has_1 : decode cX3_has 1 = .ok (.ifCond .lt 21, 3) := by decide +kernel
theorem dX3_has_4 : decode cX3_has 4 = .ok (.iload_n 2, 1) := by decide +kernel
theorem dX3_has_5 : decode cX3_has 5 = .ok (.ifCond .lt 17, 3) := by decide +kernel
theorem dX3_has_8 : decode cX3_has 8 = .ok (.iload_n 1, 1) := by decide +kernel
theorem dX3_has_9 : decode cX3_has 9 = .ok (.aload_n 0, 1) := by decide +kernel
theorem dX3_has_10 : decode cX3_has 10 = .ok (.getfield 19, 3) := by decide +kernel
theorem dX3_has_13 : decode cX3_has 13 = .ok (.iload_n 2, 1) := by decide +kernel
theorem dX3_has_14 : decode cX3_has 14 = .ok (.isub, 1) := by decide +kernel
theorem dX3_has_15 : decode cX3_has 15 = .ok (.if_icmp .gt 7, 3) := by decide +kernel
theorem dX3_has_18 : decode cX3_has 18 = .ok (.iconst 1, 1) := by decide +kernel
theorem dX3_has_19 : decode cX3_has 19 = .ok (.goto 4, 3) := by decide +kernel
theorem dX3_has_22 : decode cX3_has 22 = .ok (.iconst 0, 1) := by decide +kernel
theorem dX3_has_23 : decode cX3_has 23 = .ok (.ireturn, 1) := by decide +kernel
theorem dX5_isBelow_0 : decode cX5_isBelow 0 = .ok (.iload_n 0, 1) := by decide +kernel
theorem dX5_isBelow_1 : decode cX5_isBelow 1 = .ok (.ifCond .lt 12, 3) := by decide +kernel
theorem dX5_isBelow_4 : decode cX5_isBelow 4 = .ok (.iload_n 0, 1) := by decide +kernel
theorem dX5_isBelow_5 : decode cX5_isBelow 5 = .ok (.iload_n 1, 1) := by decide +kernel
theorem dX5_isBelow_6 : decode cX5_isBelow 6 = .ok (.if_icmp .ge 7, 3) := by decide +kernel
theorem dX5_isBelow_9 : decode cX5_isBelow 9 = .ok (.iconst 1, 1) := by decide +kernel
theorem dX5_isBelow_10 : decode cX5_isBelow 10 = .ok (.goto 4, 3) := by decide +kernel
theorem dX5_isBelow_13 : decode cX5_isBelow 13 = .ok (.iconst 0, 1) := by decide +kernel
theorem dX5_isBelow_14 : decode cX5_isBelow 14 = .ok (.ireturn, 1) := by decide +kernel
theorem dX5_bounded_0 : decode cX5_bounded 0 = .ok (.iload_n 1, 1) := by decide +kernel
theorem dX5_bounded_1 : decode cX5_bounded 1 = .ok (.iload_n 2, 1) := by decide +kernel
theorem dX5_bounded_2 : decode cX5_bounded 2 = .ok (.iload_n 0, 1) := by decide +kernel
theorem dX5_bounded_3 : decode cX5_bounded 3 = .ok (.invokestatic 292, 3) := by decide +kernel
theorem dX5_bounded_6 : decode cX5_bounded 6 = .ok (.invokestatic 191, 3) := by decide +kernel
theorem dX5_bounded_9 : decode cX5_bounded 9 = .ok (.ireturn, 1) := by decide +kernel
theorem dJ6_bitCount_0f7a4_0 : decode cJ6_bitCount_0f7a4 0 = .ok (.iload_n 0, 1) := by decide +kernel
theorem dJ6_bitCount_0f7a4_1 : decode cJ6_bitCount_0f7a4 1 = .ok (.iload_n 0, 1) := by decide +kernel
theorem dJ6_bitCount_0f7a4_2 : decode cJ6_bitCount_0f7a4 2 = .ok (.iconst 1, 1) := by decide +kernel
theorem dJ6_bitCount_0f7a4_3 : decode cJ6_bitCount_0f7a4 3 = .ok (.iushr, 1) := by decide +kernel
theorem dJ6_bitCount_0f7a4_4 : decode cJ6_bitCount_0f7a4 4 = .ok (.ldc_w 265, 3) := by decide +kernel
theorem dJ6_bitCount_0f7a4_7 : decode cJ6_bitCount_0f7a4 7 = .ok (.iand, 1) := by decide +kernel
theorem dJ6_bitCount_0f7a4_8 : decode cJ6_bitCount_0f7a4 8 = .ok (.isub, 1) := by decide +kernel
theorem dJ6_bitCount_0f7a4_9 : decode cJ6_bitCount_0f7a4 9 = .ok (.istore_n 0, 1) := by decide +kernel
theorem dJ6_bitCount_0f7a4_10 : decode cJ6_bitCount_0f7a4 10 = .ok (.iload_n 0, 1) := by decide +kernel
theorem dJ6_bitCount_0f7a4_11 : decode cJ6_bitCount_0f7a4 11 = .ok (.ldc_w 266, 3) := by decide +kernel
theorem dJ6_bitCount_0f7a4_14 : decode cJ6_bitCount_0f7a4 14 = .ok (.iand, 1) := by decide +kernel
theorem dJ6_bitCount_0f7a4_15 : decode cJ6_bitCount_0f7a4 15 = .ok (.iload_n 0, 1) := by decide +kernel
theorem dJ6_bitCount_0f7a4_16 : decode cJ6_bitCount_0f7a4 16 = .ok (.iconst 2, 1) := by decide +kernel
theorem dJ6_bitCount_0f7a4_17 : decode cJ6_bitCount_0f7a4 17 = .ok (.iushr, 1) := by decide +kernel
theorem dJ6_bitCount_0f7a4_18 : decode cJ6_bitCount_0f7a4 18 = .ok (.ldc_w 266, 3) := by decide +kernel
theorem dJ6_bitCount_0f7a4_21 : decode cJ6_bitCount_0f7a4 21 = .ok (.iand, 1) := by decide +kernel
theorem dJ6_bitCount_0f7a4_22 : decode cJ6_bitCount_0f7a4 22 = .ok (.iadd, 1) := by decide +kernel
theorem dJ6_bitCount_0f7a4_23 : decode cJ6_bitCount_0f7a4 23 = .ok (.istore_n 0, 1) := by decide +kernel
theorem dJ6_bitCount_0f7a4_24 : decode cJ6_bitCount_0f7a4 24 = .ok (.iload_n 0, 1) := by decide +kernel
theorem dJ6_bitCount_0f7a4_25 : decode cJ6_bitCount_0f7a4 25 = .ok (.iload_n 0, 1) := by decide +kernel
theorem dJ6_bitCount_0f7a4_26 : decode cJ6_bitCount_0f7a4 26 = .ok (.iconst 4, 1) := by decide +kernel
theorem dJ6_bitCount_0f7a4_27 : decode cJ6_bitCount_0f7a4 27 = .ok (.iushr, 1) := by decide +kernel
theorem dJ6_bitCount_0f7a4_28 : decode cJ6_bitCount_0f7a4 28 = .ok (.iadd, 1) := by decide +kernel
theorem dJ6_bitCount_0f7a4_29 : decode cJ6_bitCount_0f7a4 29 = .ok (.ldc_w 267, 3) := by decide +kernel
theorem dJ6_bitCount_0f7a4_32 : decode cJ6_bitCount_0f7a4 32 = .ok (.iand, 1) := by decide +kernel
theorem dJ6_bitCount_0f7a4_33 : decode cJ6_bitCount_0f7a4 33 = .ok (.istore_n 0, 1) := by decide +kernel
theorem dJ6_bitCount_0f7a4_34 : decode cJ6_bitCount_0f7a4 34 = .ok (.iload_n 0, 1) := by decide +kernel
theorem dJ6_bitCount_0f7a4_35 : decode cJ6_bitCount_0f7a4 35 = .ok (.iload_n 0, 1) := by decide +kernel
theorem dJ6_bitCount_0f7a4_36 : decode cJ6_bitCount_0f7a4 36 = .ok (.bipush 8, 2) := by decide +kernel
theorem dJ6_bitCount_0f7a4_38 : decode cJ6_bitCount_0f7a4 38 = .ok (.iushr, 1) := by decide +kernel
theorem dJ6_bitCount_0f7a4_39 : decode cJ6_bitCount_0f7a4 39 = .ok (.iadd, 1) := by decide +kernel
theorem dJ6_bitCount_0f7a4_40 : decode cJ6_bitCount_0f7a4 40 = .ok (.istore_n 0, 1) := by decide +kernel
theorem dJ6_bitCount_0f7a4_41 : decode cJ6_bitCount_0f7a4 41 = .ok (.iload_n 0, 1) := by decide +kernel
theorem dJ6_bitCount_0f7a4_42 : decode cJ6_bitCount_0f7a4 42 = .ok (.iload_n 0, 1) := by decide +kernel
theorem dJ6_bitCount_0f7a4_43 : decode cJ6_bitCount_0f7a4 43 = .ok (.bipush 16, 2) := by decide +kernel
theorem dJ6_bitCount_0f7a4_45 : decode cJ6_bitCount_0f7a4 45 = .ok (.iushr, 1) := by decide +kernel
theorem dJ6_bitCount_0f7a4_46 : decode cJ6_bitCount_0f7a4 46 = .ok (.iadd, 1) := by decide +kernel
theorem dJ6_bitCount_0f7a4_47 : decode cJ6_bitCount_0f7a4 47 = .ok (.istore_n 0, 1) := by decide +kernel
theorem dJ6_bitCount_0f7a4_48 : decode cJ6_bitCount_0f7a4 48 = .ok (.iload_n 0, 1) := by decide +kernel
theorem dJ6_bitCount_0f7a4_49 : decode cJ6_bitCount_0f7a4 49 = .ok (.bipush 63, 2) := by decide +kernel
theorem dJ6_bitCount_0f7a4_51 : decode cJ6_bitCount_0f7a4 51 = .ok (.iand, 1) := by decide +kernel
theorem dJ6_bitCount_0f7a4_52 : decode cJ6_bitCount_0f7a4 52 = .ok (.ireturn, 1) := by decide +kernel
theorem dJ9_floorMod_7cf53_0 : decode cJ9_floorMod_7cf53 0 = .ok (.iload_n 0, 1) := by decide +kernel
theorem dJ9_floorMod_7cf53_1 : decode cJ9_floorMod_7cf53 1 = .ok (.iload_n 1, 1) := by decide +kernel
theorem dJ9_floorMod_7cf53_2 : decode cJ9_floorMod_7cf53 2 = .ok (.irem, 1) := by decide +kernel
theorem dJ9_floorMod_7cf53_3 : decode cJ9_floorMod_7cf53 3 = .ok (.istore_n 2, 1) := by decide +kernel
theorem dJ9_floorMod_7cf53_4 : decode cJ9_floorMod_7cf53 4 = .ok (.iload_n 0, 1) := by decide +kernel
theorem dJ9_floorMod_7cf53_5 : decode cJ9_floorMod_7cf53 5 = .ok (.iload_n 1, 1) := by decide +kernel
theorem dJ9_floorMod_7cf53_6 : decode cJ9_floorMod_7cf53 6 = .ok (.ixor, 1) := by decide +kernel
theorem dJ9_floorMod_7cf53_7 : decode cJ9_floorMod_7cf53 7 = .ok (.ifCond .ge 11, 3) := by decide +kernel
theorem dJ9_floorMod_7cf53_10 : decode cJ9_floorMod_7cf53 10 = .ok (.iload_n 2, 1) := by decide +kernel
theorem dJ9_floorMod_7cf53_11 : decode cJ9_floorMod_7cf53 11 = .ok (.ifCond .eq 7, 3) := by decide +kernel
theorem dJ9_floorMod_7cf53_14 : decode cJ9_floorMod_7cf53 14 = .ok (.iload_n 2, 1) := by decide +kernel
theorem dJ9_floorMod_7cf53_15 : decode cJ9_floorMod_7cf53 15 = .ok (.iload_n 1, 1) := by decide +kernel
theorem dJ9_floorMod_7cf53_16 : decode cJ9_floorMod_7cf53 16 = .ok (.iadd, 1) := by decide +kernel
theorem dJ9_floorMod_7cf53_17 : decode cJ9_floorMod_7cf53 17 = .ok (.ireturn, 1) := by decide +kernel
theorem dJ9_floorMod_7cf53_18 : decode cJ9_floorMod_7cf53 18 = .ok (.iload_n 2, 1) := by decide +kernel
theorem dJ9_floorMod_7cf53_19 : decode cJ9_floorMod_7cf53 19 = .ok (.ireturn, 1) := by decide +kernel
theorem dJ9_abs_0f7a4_0 : decode cJ9_abs_0f7a4 0 = .ok (.iload_n 0, 1) := by decide +kernel
theorem dJ9_abs_0f7a4_1 : decode cJ9_abs_0f7a4 1 = .ok (.ifCond .ge 8, 3) := by decide +kernel
theorem dJ9_abs_0f7a4_4 : decode cJ9_abs_0f7a4 4 = .ok (.iload_n 0, 1) := by decide +kernel
theorem dJ9_abs_0f7a4_5 : decode cJ9_abs_0f7a4 5 = .ok (.ineg, 1) := by decide +kernel
theorem dJ9_abs_0f7a4_6 : decode cJ9_abs_0f7a4 6 = .ok (.goto 4, 3) := by decide +kernel
theorem dJ9_abs_0f7a4_9 : decode cJ9_abs_0f7a4 9 = .ok (.iload_n 0, 1) := by decide +kernel
theorem dJ9_abs_0f7a4_10 : decode cJ9_abs_0f7a4 10 = .ok (.ireturn, 1) := by decide +kernel
theorem dJ9_max_7cf53_0 : decode cJ9_max_7cf53 0 = .ok (.iload_n 0, 1) := by decide +kernel
theorem dJ9_max_7cf53_1 : decode cJ9_max_7cf53 1 = .ok (.iload_n 1, 1) := by decide +kernel
theorem dJ9_max_7cf53_2 : decode cJ9_max_7cf53 2 = .ok (.if_icmp .lt 7, 3) := by decide +kernel
theorem dJ9_max_7cf53_5 : decode cJ9_max_7cf53 5 = .ok (.iload_n 0, 1) := by decide +kernel
theorem dJ9_max_7cf53_6 : decode cJ9_max_7cf53 6 = .ok (.goto 4, 3) := by decide +kernel
theorem dJ9_max_7cf53_9 : decode cJ9_max_7cf53 9 = .ok (.iload_n 1, 1) := by decide +kernel
theorem dJ9_max_7cf53_10 : decode cJ9_max_7cf53 10 = .ok (.ireturn, 1) := by decide +kernel
theorem dJ9_min_7cf53_0 : decode cJ9_min_7cf53 0 = .ok (.iload_n 0, 1) := by decide +kernel
theorem dJ9_min_7cf53_1 : decode cJ9_min_7cf53 1 = .ok (.iload_n 1, 1) := by decide +kernel
theorem dJ9_min_7cf53_2 : decode cJ9_min_7cf53 2 = .ok (.if_icmp .gt 7, 3) := by decide +kernel
theorem dJ9_min_7cf53_5 : decode cJ9_min_7cf53 5 = .ok (.iload_n 0, 1) := by decide +kernel
theorem dJ9_min_7cf53_6 : decode cJ9_min_7cf53 6 = .ok (.goto 4, 3) := by decide +kernel
theorem dJ9_min_7cf53_9 : decode cJ9_min_7cf53 9 = .ok (.iload_n 1, 1) := by decide +kernel
theorem dJ9_min_7cf53_10 : decode cJ9_min_7cf53 10 = .ok (.ireturn, 1) := by decide +kernel
theorem dJ7_fill_53178_0 : decode cJ7_fill_53178 0 = .ok (.iconst 0, 1) := by decide +kernel
theorem dJ7_fill_53178_1 : decode cJ7_fill_53178 1 = .ok (.istore_n 2, 1) := by decide +kernel
theorem dJ7_fill_53178_2 : decode cJ7_fill_53178 2 = .ok (.aload_n 0, 1) := by decide +kernel
theorem dJ7_fill_53178_3 : decode cJ7_fill_53178 3 = .ok (.arraylength, 1) := by decide +kernel
theorem dJ7_fill_53178_4 : decode cJ7_fill_53178 4 = .ok (.istore_n 3, 1) := by decide +kernel
theorem dJ7_fill_53178_5 : decode cJ7_fill_53178 5 = .ok (.iload_n 2, 1) := by decide +kernel
theorem dJ7_fill_53178_6 : decode cJ7_fill_53178 6 = .ok (.iload_n 3, 1) := by decide +kernel
theorem dJ7_fill_53178_7 : decode cJ7_fill_53178 7 = .ok (.if_icmp .ge 13, 3) := by decide +kernel
theorem dJ7_fill_53178_10 : decode cJ7_fill_53178 10 = .ok (.aload_n 0, 1) := by decide +kernel
theorem dJ7_fill_53178_11 : decode cJ7_fill_53178 11 = .ok (.iload_n 2, 1) := by decide +kernel
theorem dJ7_fill_53178_12 : decode cJ7_fill_53178 12 = .ok (.iload_n 1, 1) := by decide +kernel
theorem dJ7_fill_53178_13 : decode cJ7_fill_53178 13 = .ok (.iastore, 1) := by decide +kernel
theorem dJ7_fill_53178_14 : decode cJ7_fill_53178 14 = .ok (.iinc 2 1, 3) := by decide +kernel
theorem dJ7_fill_53178_17 : decode cJ7_fill_53178 17 = .ok (.goto (-12), 3) := by decide +kernel
theorem dJ7_fill_53178_20 : decode cJ7_fill_53178 20 = .ok (.return_, 1) := by decide +kernel
theorem dJ7_copyOf_59c91_0 : decode cJ7_copyOf_59c91 0 = .ok (.iload_n 1, 1) := by decide +kernel
theorem dJ7_copyOf_59c91_1 : decode cJ7_copyOf_59c91 1 = .ok (.aload_n 0, 1) := by decide +kernel
theorem dJ7_copyOf_59c91_2 : decode cJ7_copyOf_59c91 2 = .ok (.arraylength, 1) := by decide +kernel
theorem dJ7_copyOf_59c91_3 : decode cJ7_copyOf_59c91 3 = .ok (.if_icmp .ne 11, 3) := by decide +kernel
theorem dJ7_copyOf_59c91_6 : decode cJ7_copyOf_59c91 6 = .ok (.aload_n 0, 1) := by decide +kernel
theorem dJ7_copyOf_59c91_7 : decode cJ7_copyOf_59c91 7 = .ok (.invokevirtual 316, 3) := by decide +kernel
theorem dJ7_copyOf_59c91_10 : decode cJ7_copyOf_59c91 10 = .ok (.checkcast 317, 3) := by decide +kernel
theorem dJ7_copyOf_59c91_13 : decode cJ7_copyOf_59c91 13 = .ok (.areturn, 1) := by decide +kernel
theorem dJ7_copyOf_59c91_14 : decode cJ7_copyOf_59c91 14 = .ok (.iload_n 1, 1) := by decide +kernel
theorem dJ7_copyOf_59c91_15 : decode cJ7_copyOf_59c91 15 = .ok (.newarray .int, 2) := by decide +kernel
theorem dJ7_copyOf_59c91_17 : decode cJ7_copyOf_59c91 17 = .ok (.astore_n 2, 1) := by decide +kernel
theorem dJ7_copyOf_59c91_18 : decode cJ7_copyOf_59c91 18 = .ok (.aload_n 0, 1) := by decide +kernel
theorem dJ7_copyOf_59c91_19 : decode cJ7_copyOf_59c91 19 = .ok (.iconst 0, 1) := by decide +kernel
theorem dJ7_copyOf_59c91_20 : decode cJ7_copyOf_59c91 20 = .ok (.aload_n 2, 1) := by decide +kernel
theorem dJ7_copyOf_59c91_21 : decode cJ7_copyOf_59c91 21 = .ok (.iconst 0, 1) := by decide +kernel
theorem dJ7_copyOf_59c91_22 : decode cJ7_copyOf_59c91 22 = .ok (.aload_n 0, 1) := by decide +kernel
theorem dJ7_copyOf_59c91_23 : decode cJ7_copyOf_59c91 23 = .ok (.arraylength, 1) := by decide +kernel
theorem dJ7_copyOf_59c91_24 : decode cJ7_copyOf_59c91 24 = .ok (.iload_n 1, 1) := by decide +kernel
theorem dJ7_copyOf_59c91_25 : decode cJ7_copyOf_59c91 25 = .ok (.invokestatic 304, 3) := by decide +kernel
theorem dJ7_copyOf_59c91_28 : decode cJ7_copyOf_59c91 28 = .ok (.invokestatic 150, 3) := by decide +kernel
theorem dJ7_copyOf_59c91_31 : decode cJ7_copyOf_59c91 31 = .ok (.aload_n 2, 1) := by decide +kernel
theorem dJ7_copyOf_59c91_32 : decode cJ7_copyOf_59c91 32 = .ok (.areturn, 1) := by decide +kernel

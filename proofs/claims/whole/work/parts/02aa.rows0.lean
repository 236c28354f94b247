set_option maxRecDepth 20000 in
theorem ggX0_init_J7_fill_53178 : GoodIn wsX0_init wsJ7_fill_53178 := goodIn_r _ [20] (by decide +kernel) (by decide +kernel)
set_option maxRecDepth 20000 in
theorem gX0_init_J7_fill_53178 : GoodIn wsX0_init (va_wsS RX0 49 yJ7_fill_53178 wsJ7_fill_53178) := goodIn_app (goodIn_of _ (by decide +kernel)) ggX0_init_J7_fill_53178
theorem dX0_init_0 : decode cX0_init 0 = .ok (.aload_n 0, 1) := by decide +kernel
theorem dX0_init_1 : decode cX0_init 1 = .ok (.invokespecial 3, 3) := by decide +kernel
theorem dX0_init_4 : decode cX0_init 4 = .ok (.aload_n 0, 1) := by decide +kernel
theorem dX0_init_5 : decode cX0_init 5 = .ok (.bipush 10, 2) := by decide +kernel
theorem dX0_init_7 : decode cX0_init 7 = .ok (.newarray .int, 2) := by decide +kernel
theorem dX0_init_9 : decode cX0_init 9 = .ok (.putfield 9, 3) := by decide +kernel
theorem dX0_init_12 : decode cX0_init 12 = .ok (.aload_n 0, 1) := by decide +kernel
theorem dX0_init_13 : decode cX0_init 13 = .ok (.bipush 6, 2) := by decide +kernel
theorem dX0_init_15 : decode cX0_init 15 = .ok (.newarray .int, 2) := by decide +kernel
theorem dX0_init_17 : decode cX0_init 17 = .ok (.putfield 15, 3) := by decide +kernel
theorem dX0_init_20 : decode cX0_init 20 = .ok (.aload_n 0, 1) := by decide +kernel
theorem dX0_init_21 : decode cX0_init 21 = .ok (.bipush 6, 2) := by decide +kernel
theorem dX0_init_23 : decode cX0_init 23 = .ok (.newarray .int, 2) := by decide +kernel
theorem dX0_init_25 : decode cX0_init 25 = .ok (.putfield 18, 3) := by decide +kernel
theorem dX0_init_28 : decode cX0_init 28 = .ok (.aload_n 0, 1) := by decide +kernel
theorem dX0_init_29 : decode cX0_init 29 = .ok (.bipush 6, 2) := by decide +kernel
theorem dX0_init_31 : decode cX0_init 31 = .ok (.newarray .int, 2) := by decide +kernel
theorem dX0_init_33 : decode cX0_init 33 = .ok (.putfield 21, 3) := by decide +kernel
theorem dX0_init_36 : decode cX0_init 36 = .ok (.aload_n 0, 1) := by decide +kernel
theorem dX0_init_37 : decode cX0_init 37 = .ok (.bipush 6, 2) := by decide +kernel
theorem dX0_init_39 : decode cX0_init 39 = .ok (.newarray .int, 2) := by decide +kernel
theorem dX0_init_41 : decode cX0_init 41 = .ok (.putfield 24, 3) := by decide +kernel
theorem dX0_init_44 : decode cX0_init 44 = .ok (.aload_n 0, 1) := by decide +kernel
theorem dX0_init_45 : decode cX0_init 45 = .ok (.bipush 6, 2) := by decide +kernel
theorem dX0_init_47 : decode cX0_init 47 = .ok (.newarray .int, 2) := by decide +kernel
theorem dX0_init_49 : decode cX0_init 49 = .ok (.putfield 27, 3) := by decide +kernel
theorem dX0_init_52 : decode cX0_init 52 = .ok (.aload_n 0, 1) := by decide +kernel
theorem dX0_init_53 : decode cX0_init 53 = .ok (.bipush 6, 2) := by decide +kernel
theorem dX0_init_55 : decode cX0_init 55 = .ok (.newarray .int, 2) := by decide +kernel
theorem dX0_init_57 : decode cX0_init 57 = .ok (.putfield 30, 3) := by decide +kernel
theorem dX0_init_60 : decode cX0_init 60 = .ok (.aload_n 0, 1) := by decide +kernel
theorem dX0_init_61 : decode cX0_init 61 = .ok (.bipush 8, 2) := by decide +kernel
theorem dX0_init_63 : decode cX0_init 63 = .ok (.newarray .int, 2) := by decide +kernel
theorem dX0_init_65 : decode cX0_init 65 = .ok (.putfield 33, 3) := by decide +kernel
theorem dX0_init_68 : decode cX0_init 68 = .ok (.aload_n 0, 1) := by decide +kernel
theorem dX0_init_69 : decode cX0_init 69 = .ok (.bipush 8, 2) := by decide +kernel
theorem dX0_init_71 : decode cX0_init 71 = .ok (.newarray .int, 2) := by decide +kernel
theorem dX0_init_73 : decode cX0_init 73 = .ok (.putfield 36, 3) := by decide +kernel
theorem dX0_init_76 : decode cX0_init 76 = .ok (.aload_n 0, 1) := by decide +kernel
theorem dX0_init_77 : decode cX0_init 77 = .ok (.bipush 8, 2) := by decide +kernel
theorem dX0_init_79 : decode cX0_init 79 = .ok (.newarray .int, 2) := by decide +kernel
theorem dX0_init_81 : decode cX0_init 81 = .ok (.putfield 39, 3) := by decide +kernel
theorem dX0_init_84 : decode cX0_init 84 = .ok (.aload_n 0, 1) := by decide +kernel
theorem dX0_init_85 : decode cX0_init 85 = .ok (.aload_n 1, 1) := by decide +kernel
theorem dX0_init_86 : decode cX0_init 86 = .ok (.putfield 42, 3) := by decide +kernel
theorem dX0_init_89 : decode cX0_init 89 = .ok (.aload_n 0, 1) := by decide +kernel
theorem dX0_init_90 : decode cX0_init 90 = .ok (.aload_n 2, 1) := by decide +kernel
theorem dX0_init_91 : decode cX0_init 91 = .ok (.putfield 46, 3) := by decide +kernel
theorem dX0_init_94 : decode cX0_init 94 = .ok (.aload_n 0, 1) := by decide +kernel
theorem dX0_init_95 : decode cX0_init 95 = .ok (.getfield 15, 3) := by decide +kernel
theorem dX0_init_98 : decode cX0_init 98 = .ok (.bipush 50, 2) := by decide +kernel
theorem dX0_init_100 : decode cX0_init 100 = .ok (.invokestatic 49, 3) := by decide +kernel
theorem dX0_init_103 : decode cX0_init 103 = .ok (.aload_n 0, 1) := by decide +kernel
theorem dX0_init_104 : decode cX0_init 104 = .ok (.getfield 33, 3) := by decide +kernel
theorem dX0_init_107 : decode cX0_init 107 = .ok (.iconst (-1), 1) := by decide +kernel
theorem dX0_init_108 : decode cX0_init 108 = .ok (.invokestatic 49, 3) := by decide +kernel
theorem dX0_init_111 : decode cX0_init 111 = .ok (.return_, 1) := by decide +kernel
theorem dX0_become_0 : decode cX0_become 0 = .ok (.aload_n 1, 1) := by decide +kernel
theorem dX0_become_1 : decode cX0_become 1 = .ok (.getfield 9, 3) := by decide +kernel
theorem dX0_become_4 : decode cX0_become 4 = .ok (.iconst 0, 1) := by decide +kernel
theorem dX0_become_5 : decode cX0_become 5 = .ok (.aload_n 0, 1) := by decide +kernel
theorem dX0_become_6 : decode cX0_become 6 = .ok (.getfield 9, 3) := by decide +kernel
theorem dX0_become_9 : decode cX0_become 9 = .ok (.iconst 0, 1) := by decide +kernel
theorem dX0_become_10 : decode cX0_become 10 = .ok (.bipush 10, 2) := by decide +kernel
theorem dX0_become_12 : decode cX0_become 12 = .ok (.invokestatic 55, 3) := by decide +kernel
theorem dX0_become_15 : decode cX0_become 15 = .ok (.aload_n 1, 1) := by decide +kernel
theorem dX0_become_16 : decode cX0_become 16 = .ok (.getfield 15, 3) := by decide +kernel
theorem dX0_become_19 : decode cX0_become 19 = .ok (.iconst 0, 1) := by decide +kernel
theorem dX0_become_20 : decode cX0_become 20 = .ok (.aload_n 0, 1) := by decide +kernel
theorem dX0_become_21 : decode cX0_become 21 = .ok (.getfield 15, 3) := by decide +kernel
theorem dX0_become_24 : decode cX0_become 24 = .ok (.iconst 0, 1) := by decide +kernel
theorem dX0_become_25 : decode cX0_become 25 = .ok (.bipush 6, 2) := by decide +kernel
theorem dX0_become_27 : decode cX0_become 27 = .ok (.invokestatic 55, 3) := by decide +kernel
theorem dX0_become_30 : decode cX0_become 30 = .ok (.aload_n 1, 1) := by decide +kernel
theorem dX0_become_31 : decode cX0_become 31 = .ok (.getfield 18, 3) := by decide +kernel
theorem dX0_become_34 : decode cX0_become 34 = .ok (.iconst 0, 1) := by decide +kernel
theorem dX0_become_35 : decode cX0_become 35 = .ok (.aload_n 0, 1) := by decide +kernel
theorem dX0_become_36 : decode cX0_become 36 = .ok (.getfield 18, 3) := by decide +kernel
theorem dX0_become_39 : decode cX0_become 39 = .ok (.iconst 0, 1) := by decide +kernel
theorem dX0_become_40 : decode cX0_become 40 = .ok (.bipush 6, 2) := by decide +kernel
theorem dX0_become_42 : decode cX0_become 42 = .ok (.invokestatic 55, 3) := by decide +kernel
theorem dX0_become_45 : decode cX0_become 45 = .ok (.aload_n 1, 1) := by decide +kernel
theorem dX0_become_46 : decode cX0_become 46 = .ok (.getfield 21, 3) := by decide +kernel
theorem dX0_become_49 : decode cX0_become 49 = .ok (.iconst 0, 1) := by decide +kernel
theorem dX0_become_50 : decode cX0_become 50 = .ok (.aload_n 0, 1) := by decide +kernel
theorem dX0_become_51 : decode cX0_become 51 = .ok (.getfield 21, 3) := by decide +kernel
theorem dX0_become_54 : decode cX0_become 54 = .ok (.iconst 0, 1) := by decide +kernel
theorem dX0_become_55 : decode cX0_become 55 = .ok (.bipush 6, 2) := by decide +kernel
theorem dX0_become_57 : decode cX0_become 57 = .ok (.invokestatic 55, 3) := by decide +kernel
theorem dX0_become_60 : decode cX0_become 60 = .ok (.aload_n 1, 1) := by decide +kernel
theorem dX0_become_61 : decode cX0_become 61 = .ok (.getfield 24, 3) := by decide +kernel
theorem dX0_become_64 : decode cX0_become 64 = .ok (.iconst 0, 1) := by decide +kernel
theorem dX0_become_65 : decode cX0_become 65 = .ok (.aload_n 0, 1) := by decide +kernel
theorem dX0_become_66 : decode cX0_become 66 = .ok (.getfield 24, 3) := by decide +kernel
theorem dX0_become_69 : decode cX0_become 69 = .ok (.iconst 0, 1) := by decide +kernel
theorem dX0_become_70 : decode cX0_become 70 = .ok (.bipush 6, 2) := by decide +kernel
theorem dX0_become_72 : decode cX0_become 72 = .ok (.invokestatic 55, 3) := by decide +kernel
theorem dX0_become_75 : decode cX0_become 75 = .ok (.aload_n 1, 1) := by decide +kernel
theorem dX0_become_76 : decode cX0_become 76 = .ok (.getfield 27, 3) := by decide +kernel
theorem dX0_become_79 : decode cX0_become 79 = .ok (.iconst 0, 1) := by decide +kernel
theorem dX0_become_80 : decode cX0_become 80 = .ok (.aload_n 0, 1) := by decide +kernel
theorem dX0_become_81 : decode cX0_become 81 = .ok (.getfield 27, 3) := by decide +kernel
theorem dX0_become_84 : decode cX0_become 84 = .ok (.iconst 0, 1) := by decide +kernel
theorem dX0_become_85 : decode cX0_become 85 = .ok (.bipush 6, 2) := by decide +kernel
theorem dX0_become_87 : decode cX0_become 87 = .ok (.invokestatic 55, 3) := by decide +kernel
theorem dX0_become_90 : decode cX0_become 90 = .ok (.aload_n 1, 1) := by decide +kernel
theorem dX0_become_91 : decode cX0_become 91 = .ok (.getfield 30, 3) := by decide +kernel
theorem dX0_become_94 : decode cX0_become 94 = .ok (.iconst 0, 1) := by decide +kernel
theorem dX0_become_95 : decode cX0_become 95 = .ok (.aload_n 0, 1) := by decide +kernel
theorem dX0_become_96 : decode cX0_become 96 = .ok (.getfield 30, 3) := by decide +kernel
theorem dX0_become_99 : decode cX0_become 99 = .ok (.iconst 0, 1) := by decide +kernel
theorem dX0_become_100 : decode cX0_become 100 = .ok (.bipush 6, 2) := by decide +kernel
theorem dX0_become_102 : decode cX0_become 102 = .ok (.invokestatic 55, 3) := by decide +kernel
theorem dX0_become_105 : decode cX0_become 105 = .ok (.aload_n 1, 1) := by decide +kernel
theorem dX0_become_106 : decode cX0_become 106 = .ok (.getfield 33, 3) := by decide +kernel
theorem dX0_become_109 : decode cX0_become 109 = .ok (.iconst 0, 1) := by decide +kernel
theorem dX0_become_110 : decode cX0_become 110 = .ok (.aload_n 0, 1) := by decide +kernel
theorem dX0_become_111 : decode cX0_become 111 = .ok (.getfield 33, 3) := by decide +kernel
theorem dX0_become_114 : decode cX0_become 114 = .ok (.iconst 0, 1) := by decide +kernel
theorem dX0_become_115 : decode cX0_become 115 = .ok (.bipush 8, 2) := by decide +kernel
theorem dX0_become_117 : decode cX0_become 117 = .ok (.invokestatic 55, 3) := by decide +kernel
theorem dX0_become_120 : decode cX0_become 120 = .ok (.aload_n 1, 1) := by decide +kernel
theorem dX0_become_121 : decode cX0_become 121 = .ok (.getfield 36, 3) := by decide +kernel
theorem dX0_become_124 : decode cX0_become 124 = .ok (.iconst 0, 1) := by decide +kernel
theorem dX0_become_125 : decode cX0_become 125 = .ok (.aload_n 0, 1) := by decide +kernel
theorem dX0_become_126 : decode cX0_become 126 = .ok (.getfield 36, 3) := by decide +kernel
theorem dX0_become_129 : decode cX0_become 129 = .ok (.iconst 0, 1) := by decide +kernel
theorem dX0_become_130 : decode cX0_become 130 = .ok (.bipush 8, 2) := by decide +kernel
theorem dX0_become_132 : decode cX0_become 132 = .ok (.invokestatic 55, 3) := by decide +kernel
theorem dX0_become_135 : decode cX0_become 135 = .ok (.aload_n 1, 1) := by decide +kernel
theorem dX0_become_136 : decode cX0_become 136 = .ok (.getfield 39, 3) := by decide +kernel
theorem dX0_become_139 : decode cX0_become 139 = .ok (.iconst 0, 1) := by decide +kernel
theorem dX0_become_140 : decode cX0_become 140 = .ok (.aload_n 0, 1) := by decide +kernel
theorem dX0_become_141 : decode cX0_become 141 = .ok (.getfield 39, 3) := by decide +kernel
theorem dX0_become_144 : decode cX0_become 144 = .ok (.iconst 0, 1) := by decide +kernel
theorem dX0_become_145 : decode cX0_become 145 = .ok (.bipush 8, 2) := by decide +kernel
theorem dX0_become_147 : decode cX0_become 147 = .ok (.invokestatic 55, 3) := by decide +kernel
theorem dX0_become_150 : decode cX0_become 150 = .ok (.aload_n 0, 1) := by decide +kernel
theorem dX0_become_151 : decode cX0_become 151 = .ok (.aload_n 1, 1) := by decide +kernel
theorem dX0_become_152 : decode cX0_become 152 = .ok (.getfield 61, 3) := by decide +kernel
theorem dX0_become_155 : decode cX0_become 155 = .ok (.putfield 61, 3) := by decide +kernel
theorem dX0_become_158 : decode cX0_become 158 = .ok (.aload_n 0, 1) := by decide +kernel
theorem dX0_become_159 : decode cX0_become 159 = .ok (.aload_n 1, 1) := by decide +kernel
theorem dX0_become_160 : decode cX0_become 160 = .ok (.getfield 65, 3) := by decide +kernel
theorem dX0_become_163 : decode cX0_become 163 = .ok (.putfield 65, 3) := by decide +kernel
theorem dX0_become_166 : decode cX0_become 166 = .ok (.aload_n 0, 1) := by decide +kernel
theorem dX0_become_167 : decode cX0_become 167 = .ok (.aload_n 1, 1) := by decide +kernel
theorem dX0_become_168 : decode cX0_become 168 = .ok (.getfield 68, 3) := by decide +kernel
theorem dX0_become_171 : decode cX0_become 171 = .ok (.putfield 68, 3) := by decide +kernel
theorem dX0_become_174 : decode cX0_become 174 = .ok (.aload_n 0, 1) := by decide +kernel
theorem dX0_become_175 : decode cX0_become 175 = .ok (.aload_n 1, 1) := by decide +kernel
theorem dX0_become_176 : decode cX0_become 176 = .ok (.getfield 42, 3) := by decide +kernel
theorem dX0_become_179 : decode cX0_become 179 = .ok (.putfield 42, 3) := by decide +kernel
theorem dX0_become_182 : decode cX0_become 182 = .ok (.return_, 1) := by decide +kernel
set_option maxRecDepth 20000 in
theorem ggX0_hasWitness_X5_isBelow : GoodIn wsX0_hasWitness wsX5_isBelow := goodIn_r _ [4] (by decide +kernel) (by decide +kernel)
set_option maxRecDepth 20000 in
theorem gX0_hasWitness_X5_isBelow_n71 : GoodIn wsX0_hasWitness (wsX5_isBelow) := ggX0_hasWitness_X5_isBelow
theorem dX0_hasWitness_0 : decode cX0_hasWitness 0 = .ok (.iload_n 1, 1) := by decide +kernel
theorem dX0_hasWitness_1 : decode cX0_hasWitness 1 = .ok (.aload_n 0, 1) := by decide +kernel
theorem dX0_hasWitness_2 : decode cX0_hasWitness 2 = .ok (.getfield 68, 3) := by decide +kernel
theorem dX0_hasWitness_5 : decode cX0_hasWitness 5 = .ok (.invokestatic 71, 3) := by decide +kernel
theorem dX0_hasWitness_8 : decode cX0_hasWitness 8 = .ok (.ireturn, 1) := by decide +kernel
theorem dX0_welcome_0 : decode cX0_welcome 0 = .ok (.aload_n 0, 1) := by decide +kernel
theorem dX0_welcome_1 : decode cX0_welcome 1 = .ok (.getfield 68, 3) := by decide +kernel
theorem dX0_welcome_4 : decode cX0_welcome 4 = .ok (.istore 4, 2) := by decide +kernel
theorem dX0_welcome_6 : decode cX0_welcome 6 = .ok (.aload_n 0, 1) := by decide +kernel
theorem dX0_welcome_7 : decode cX0_welcome 7 = .ok (.getfield 18, 3) := by decide +kernel
theorem dX0_welcome_10 : decode cX0_welcome 10 = .ok (.iload 4, 2) := by decide +kernel
theorem dX0_welcome_12 : decode cX0_welcome 12 = .ok (.iload_n 1, 1) := by decide +kernel
theorem dX0_welcome_13 : decode cX0_welcome 13 = .ok (.bipush 10, 2) := by decide +kernel
theorem dX0_welcome_15 : decode cX0_welcome 15 = .ok (.idiv, 1) := by decide +kernel
theorem dX0_welcome_16 : decode cX0_welcome 16 = .ok (.iastore, 1) := by decide +kernel
theorem dX0_welcome_17 : decode cX0_welcome 17 = .ok (.aload_n 0, 1) := by decide +kernel
theorem dX0_welcome_18 : decode cX0_welcome 18 = .ok (.getfield 21, 3) := by decide +kernel
theorem dX0_welcome_21 : decode cX0_welcome 21 = .ok (.iload 4, 2) := by decide +kernel
theorem dX0_welcome_23 : decode cX0_welcome 23 = .ok (.iload_n 1, 1) := by decide +kernel
theorem dX0_welcome_24 : decode cX0_welcome 24 = .ok (.bipush 10, 2) := by decide +kernel
theorem dX0_welcome_26 : decode cX0_welcome 26 = .ok (.irem, 1) := by decide +kernel
theorem dX0_welcome_27 : decode cX0_welcome 27 = .ok (.iastore, 1) := by decide +kernel
theorem dX0_welcome_28 : decode cX0_welcome 28 = .ok (.aload_n 0, 1) := by decide +kernel
theorem dX0_welcome_29 : decode cX0_welcome 29 = .ok (.getfield 24, 3) := by decide +kernel
theorem dX0_welcome_32 : decode cX0_welcome 32 = .ok (.iload 4, 2) := by decide +kernel
theorem dX0_welcome_34 : decode cX0_welcome 34 = .ok (.iload_n 2, 1) := by decide +kernel
theorem dX0_welcome_35 : decode cX0_welcome 35 = .ok (.iastore, 1) := by decide +kernel
theorem dX0_welcome_36 : decode cX0_welcome 36 = .ok (.aload_n 0, 1) := by decide +kernel
theorem dX0_welcome_37 : decode cX0_welcome 37 = .ok (.getfield 27, 3) := by decide +kernel
theorem dX0_welcome_40 : decode cX0_welcome 40 = .ok (.iload 4, 2) := by decide +kernel
theorem dX0_welcome_42 : decode cX0_welcome 42 = .ok (.iload_n 3, 1) := by decide +kernel
theorem dX0_welcome_43 : decode cX0_welcome 43 = .ok (.iastore, 1) := by decide +kernel
theorem dX0_welcome_44 : decode cX0_welcome 44 = .ok (.aload_n 0, 1) := by decide +kernel
theorem dX0_welcome_45 : decode cX0_welcome 45 = .ok (.getfield 30, 3) := by decide +kernel
theorem dX0_welcome_48 : decode cX0_welcome 48 = .ok (.iload 4, 2) := by decide +kernel
theorem dX0_welcome_50 : decode cX0_welcome 50 = .ok (.iconst 0, 1) := by decide +kernel
theorem dX0_welcome_51 : decode cX0_welcome 51 = .ok (.iastore, 1) := by decide +kernel
theorem dX0_welcome_52 : decode cX0_welcome 52 = .ok (.aload_n 0, 1) := by decide +kernel
theorem dX0_welcome_53 : decode cX0_welcome 53 = .ok (.dup, 1) := by decide +kernel
theorem dX0_welcome_54 : decode cX0_welcome 54 = .ok (.getfield 68, 3) := by decide +kernel
theorem dX0_welcome_57 : decode cX0_welcome 57 = .ok (.iconst 1, 1) := by decide +kernel
theorem dX0_welcome_58 : decode cX0_welcome 58 = .ok (.iadd, 1) := by decide +kernel
theorem dX0_welcome_59 : decode cX0_welcome 59 = .ok (.putfield 68, 3) := by decide +kernel
theorem dX0_welcome_62 : decode cX0_welcome 62 = .ok (.iload 4, 2) := by decide +kernel
theorem dX0_welcome_64 : decode cX0_welcome 64 = .ok (.ireturn, 1) := by decide +kernel
theorem dX0_isAdmitted_0 : decode cX0_isAdmitted 0 = .ok (.aload_n 0, 1) := by decide +kernel
theorem dX0_isAdmitted_1 : decode cX0_isAdmitted 1 = .ok (.getfield 61, 3) := by decide +kernel
theorem dX0_isAdmitted_4 : decode cX0_isAdmitted 4 = .ok (.iload_n 1, 1) := by decide +kernel
theorem dX0_isAdmitted_5 : decode cX0_isAdmitted 5 = .ok (.ishr, 1) := by decide +kernel
theorem dX0_isAdmitted_6 : decode cX0_isAdmitted 6 = .ok (.iconst 1, 1) := by decide +kernel
theorem dX0_isAdmitted_7 : decode cX0_isAdmitted 7 = .ok (.iand, 1) := by decide +kernel
theorem dX0_isAdmitted_8 : decode cX0_isAdmitted 8 = .ok (.iconst 1, 1) := by decide +kernel
theorem dX0_isAdmitted_9 : decode cX0_isAdmitted 9 = .ok (.if_icmp .ne 7, 3) := by decide +kernel
theorem dX0_isAdmitted_12 : decode cX0_isAdmitted 12 = .ok (.iconst 1, 1) := by decide +kernel
theorem dX0_isAdmitted_13 : decode cX0_isAdmitted 13 = .ok (.goto 4, 3) := by decide +kernel
theorem dX0_isAdmitted_16 : decode cX0_isAdmitted 16 = .ok (.iconst 0, 1) := by decide +kernel
theorem dX0_isAdmitted_17 : decode cX0_isAdmitted 17 = .ok (.ireturn, 1) := by decide +kernel
set_option maxRecDepth 20000 in
theorem ggX0_verdict_X0_weightOf : GoodIn wsX0_verdict wsX0_weightOf := goodIn_r _ [6, 7, 8, 9, 10, 11, 12, 13, 14, 15, 16, 17, 18, 19, 20, 21, 22] (by decide +kernel) (by decide +kernel)
set_option maxRecDepth 20000 in
theorem gX0_verdict_X0_weightOf : GoodIn wsX0_verdict (wsV RX0 75 RX0 yX0_weightOf wsX0_weightOf) := goodIn_app (goodIn_of _ (by decide +kernel)) ggX0_verdict_X0_weightOf
theorem dX0_verdict_0 : decode cX0_verdict 0 = .ok (.aload_n 0, 1) := by decide +kernel
theorem dX0_verdict_1 : decode cX0_verdict 1 = .ok (.aload_n 0, 1) := by decide +kernel
theorem dX0_verdict_2 : decode cX0_verdict 2 = .ok (.getfield 61, 3) := by decide +kernel
theorem dX0_verdict_5 : decode cX0_verdict 5 = .ok (.invokevirtual 75, 3) := by decide +kernel
theorem dX0_verdict_8 : decode cX0_verdict 8 = .ok (.ireturn, 1) := by decide +kernel
theorem dX0_weightOf_0 : decode cX0_weightOf 0 = .ok (.iconst 0, 1) := by decide +kernel
theorem dX0_weightOf_1 : decode cX0_weightOf 1 = .ok (.istore_n 2, 1) := by decide +kernel
theorem dX0_weightOf_2 : decode cX0_weightOf 2 = .ok (.iconst 0, 1) := by decide +kernel
theorem dX0_weightOf_3 : decode cX0_weightOf 3 = .ok (.istore_n 3, 1) := by decide +kernel
theorem dX0_weightOf_4 : decode cX0_weightOf 4 = .ok (.iload_n 3, 1) := by decide +kernel
theorem dX0_weightOf_5 : decode cX0_weightOf 5 = .ok (.bipush 10, 2) := by decide +kernel
theorem dX0_weightOf_7 : decode cX0_weightOf 7 = .ok (.if_icmp .ge 31, 3) := by decide +kernel
theorem dX0_weightOf_10 : decode cX0_weightOf 10 = .ok (.iload_n 2, 1) := by decide +kernel
theorem dX0_weightOf_11 : decode cX0_weightOf 11 = .ok (.iload_n 1, 1) := by decide +kernel
theorem dX0_weightOf_12 : decode cX0_weightOf 12 = .ok (.iload_n 3, 1) := by decide +kernel
theorem dX0_weightOf_13 : decode cX0_weightOf 13 = .ok (.ishr, 1) := by decide +kernel
theorem dX0_weightOf_14 : decode cX0_weightOf 14 = .ok (.iconst 1, 1) := by decide +kernel
theorem dX0_weightOf_15 : decode cX0_weightOf 15 = .ok (.iand, 1) := by decide +kernel
theorem dX0_weightOf_16 : decode cX0_weightOf 16 = .ok (.iconst 1, 1) := by decide +kernel
theorem dX0_weightOf_17 : decode cX0_weightOf 17 = .ok (.if_icmp .ne 12, 3) := by decide +kernel
theorem dX0_weightOf_20 : decode cX0_weightOf 20 = .ok (.aload_n 0, 1) := by decide +kernel
theorem dX0_weightOf_21 : decode cX0_weightOf 21 = .ok (.getfield 9, 3) := by decide +kernel
theorem dX0_weightOf_24 : decode cX0_weightOf 24 = .ok (.iload_n 3, 1) := by decide +kernel
theorem dX0_weightOf_25 : decode cX0_weightOf 25 = .ok (.iaload, 1) := by decide +kernel
theorem dX0_weightOf_26 : decode cX0_weightOf 26 = .ok (.goto 4, 3) := by decide +kernel
theorem dX0_weightOf_29 : decode cX0_weightOf 29 = .ok (.iconst 0, 1) := by decide +kernel
theorem dX0_weightOf_30 : decode cX0_weightOf 30 = .ok (.iadd, 1) := by decide +kernel
theorem dX0_weightOf_31 : decode cX0_weightOf 31 = .ok (.istore_n 2, 1) := by decide +kernel
theorem dX0_weightOf_32 : decode cX0_weightOf 32 = .ok (.iinc 3 1, 3) := by decide +kernel
theorem dX0_weightOf_35 : decode cX0_weightOf 35 = .ok (.goto (-31), 3) := by decide +kernel
theorem dX0_weightOf_38 : decode cX0_weightOf 38 = .ok (.iload_n 2, 1) := by decide +kernel
theorem dX0_weightOf_39 : decode cX0_weightOf 39 = .ok (.ireturn, 1) := by decide +kernel
set_option maxRecDepth 20000 in
theorem ggX0_lies_X5_isBelow : GoodIn wsX0_lies wsX5_isBelow := goodIn_r _ [4] (by decide +kernel) (by decide +kernel)
set_option maxRecDepth 20000 in
theorem gX0_lies_X5_isBelow_n71 : GoodIn wsX0_lies (wsX5_isBelow) := ggX0_lies_X5_isBelow
theorem dX0_lies_0 : decode cX0_lies 0 = .ok (.iload_n 1, 1) := by decide +kernel
theorem dX0_lies_1 : decode cX0_lies 1 = .ok (.bipush 8, 2) := by decide +kernel
theorem dX0_lies_3 : decode cX0_lies 3 = .ok (.invokestatic 71, 3) := by decide +kernel
theorem dX0_lies_6 : decode cX0_lies 6 = .ok (.ifCond .eq 17, 3) := by decide +kernel
theorem dX0_lies_9 : decode cX0_lies 9 = .ok (.aload_n 0, 1) := by decide +kernel
theorem dX0_lies_10 : decode cX0_lies 10 = .ok (.getfield 33, 3) := by decide +kernel
theorem dX0_lies_13 : decode cX0_lies 13 = .ok (.iload_n 1, 1) := by decide +kernel
theorem dX0_lies_14 : decode cX0_lies 14 = .ok (.iaload, 1) := by decide +kernel
theorem dX0_lies_15 : decode cX0_lies 15 = .ok (.iconst (-1), 1) := by decide +kernel
theorem dX0_lies_16 : decode cX0_lies 16 = .ok (.if_icmp .eq 7, 3) := by decide +kernel
theorem dX0_lies_19 : decode cX0_lies 19 = .ok (.iconst 1, 1) := by decide +kernel
theorem dX0_lies_20 : decode cX0_lies 20 = .ok (.goto 4, 3) := by decide +kernel
theorem dX0_lies_23 : decode cX0_lies 23 = .ok (.iconst 0, 1) := by decide +kernel
theorem dX0_lies_24 : decode cX0_lies 24 = .ok (.ireturn, 1) := by decide +kernel
theorem dX0_lying_0 : decode cX0_lying 0 = .ok (.iconst 0, 1) := by decide +kernel
theorem dX0_lying_1 : decode cX0_lying 1 = .ok (.istore_n 1, 1) := by decide +kernel
theorem dX0_lying_2 : decode cX0_lying 2 = .ok (.iconst 0, 1) := by decide +kernel
theorem dX0_lying_3 : decode cX0_lying 3 = .ok (.istore_n 2, 1) := by decide +kernel
theorem dX0_lying_4 : decode cX0_lying 4 = .ok (.iload_n 2, 1) := by decide +kernel
theorem dX0_lying_5 : decode cX0_lying 5 = .ok (.bipush 8, 2) := by decide +kernel
theorem dX0_lying_7 : decode cX0_lying 7 = .ok (.if_icmp .ge 27, 3) := by decide +kernel
theorem dX0_lying_10 : decode cX0_lying 10 = .ok (.iload_n 1, 1) := by decide +kernel
theorem dX0_lying_11 : decode cX0_lying 11 = .ok (.aload_n 0, 1) := by decide +kernel
theorem dX0_lying_12 : decode cX0_lying 12 = .ok (.getfield 33, 3) := by decide +kernel
theorem dX0_lying_15 : decode cX0_lying 15 = .ok (.iload_n 2, 1) := by decide +kernel
theorem dX0_lying_16 : decode cX0_lying 16 = .ok (.iaload, 1) := by decide +kernel
theorem dX0_lying_17 : decode cX0_lying 17 = .ok (.iconst (-1), 1) := by decide +kernel
theorem dX0_lying_18 : decode cX0_lying 18 = .ok (.if_icmp .eq 7, 3) := by decide +kernel
theorem dX0_lying_21 : decode cX0_lying 21 = .ok (.iconst 1, 1) := by decide +kernel
theorem dX0_lying_22 : decode cX0_lying 22 = .ok (.goto 4, 3) := by decide +kernel
theorem dX0_lying_25 : decode cX0_lying 25 = .ok (.iconst 0, 1) := by decide +kernel
theorem dX0_lying_26 : decode cX0_lying 26 = .ok (.iadd, 1) := by decide +kernel
theorem dX0_lying_27 : decode cX0_lying 27 = .ok (.istore_n 1, 1) := by decide +kernel
theorem dX0_lying_28 : decode cX0_lying 28 = .ok (.iinc 2 1, 3) := by decide +kernel
theorem dX0_lying_31 : decode cX0_lying 31 = .ok (.goto (-27), 3) := by decide +kernel
theorem dX0_lying_34 : decode cX0_lying 34 = .ok (.iload_n 1, 1) := by decide +kernel
theorem dX0_lying_35 : decode cX0_lying 35 = .ok (.ireturn, 1) := by decide +kernel
theorem dX0_linensOf_0 : decode cX0_linensOf 0 = .ok (.iconst 0, 1) := by decide +kernel
theorem dX0_linensOf_1 : decode cX0_linensOf 1 = .ok (.istore_n 2, 1) := by decide +kernel
theorem dX0_linensOf_2 : decode cX0_linensOf 2 = .ok (.iconst 0, 1) := by decide +kernel
theorem dX0_linensOf_3 : decode cX0_linensOf 3 = .ok (.istore_n 3, 1) := by decide +kernel
theorem dX0_linensOf_4 : decode cX0_linensOf 4 = .ok (.iload_n 3, 1) := by decide +kernel
theorem dX0_linensOf_5 : decode cX0_linensOf 5 = .ok (.bipush 8, 2) := by decide +kernel
theorem dX0_linensOf_7 : decode cX0_linensOf 7 = .ok (.if_icmp .ge 29, 3) := by decide +kernel
theorem dX0_linensOf_10 : decode cX0_linensOf 10 = .ok (.iload_n 2, 1) := by decide +kernel
theorem dX0_linensOf_11 : decode cX0_linensOf 11 = .ok (.aload_n 0, 1) := by decide +kernel
theorem dX0_linensOf_12 : decode cX0_linensOf 12 = .ok (.getfield 33, 3) := by decide +kernel
theorem dX0_linensOf_15 : decode cX0_linensOf 15 = .ok (.iload_n 3, 1) := by decide +kernel
theorem dX0_linensOf_16 : decode cX0_linensOf 16 = .ok (.iaload, 1) := by decide +kernel

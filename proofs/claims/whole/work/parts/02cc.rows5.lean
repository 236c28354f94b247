theorem dX5_told_149 : decode cX5_told 149 = .ok (.ireturn, 1) := by decide +kernel
theorem dX5_told_150 : decode cX5_told 150 = .ok (.bipush (-7), 2) := by decide +kernel
theorem dX5_told_152 : decode cX5_told 152 = .ok (.ireturn, 1) := by decide +kernel
set_option maxRecDepth 20000 in
theorem ggX5_regard_X0_hasWitness : GoodIn wsX5_regard wsX0_hasWitness := goodIn_r _ [6, 7, 8, 9, 10, 86, 87, 88, 89, 90, 91, 92, 93, 94, 95, 96, 97, 98, 99, 100] rfl (by decide +kernel)
set_option maxRecDepth 20000 in
theorem gX5_regard_X0_hasWitness : GoodIn wsX5_regard (wsV RX5 118 RX0 yX0_hasWitness wsX0_hasWitness) := goodIn_app (goodIn_of _ (by decide +kernel)) ggX5_regard_X0_hasWitness
set_option maxRecDepth 20000 in
theorem ggX5_regard_X5_isBelow : GoodIn wsX5_regard wsX5_isBelow := goodIn_r _ [10] rfl (by decide +kernel)
set_option maxRecDepth 20000 in
theorem gX5_regard_X5_isBelow : GoodIn wsX5_regard (va_wsS RX5 100 yX5_isBelow wsX5_isBelow) := goodIn_app (goodIn_of _ (by decide +kernel)) ggX5_regard_X5_isBelow
set_option maxRecDepth 20000 in
theorem ggX5_regard_X0_looks : GoodIn wsX5_regard wsX0_looks := goodIn_r _ [15, 16, 17, 18, 19, 20, 21, 22, 23, 24, 25, 26, 27, 28, 29, 5, 30, 31, 32, 33, 34, 35, 36, 37, 38, 39, 40, 41, 42, 43, 44, 45, 46, 47, 48, 49, 50, 51, 52, 53, 9, 54, 55, 56, 57, 58, 59, 60, 61, 62, 63, 64, 65, 66, 67, 68, 86, 87, 88, 89, 90, 91, 92, 93, 94, 95, 96, 97, 98, 99, 100, 101, 102, 103, 104] rfl (by decide +kernel)
set_option maxRecDepth 20000 in
theorem gX5_regard_X0_looks : GoodIn wsX5_regard (wsV RX5 156 RX0 yX0_looks wsX0_looks) := goodIn_app (goodIn_of _ (by decide +kernel)) ggX5_regard_X0_looks
set_option maxRecDepth 20000 in
theorem ggX5_regard_X0_stoops : GoodIn wsX5_regard wsX0_stoops := goodIn_r _ [72, 73, 74, 13, 14, 5, 15, 16, 17, 18, 19, 20, 21, 22, 23, 24, 25, 26, 27, 28, 29, 30, 31, 32, 33, 34, 35, 36, 37, 38, 39, 40, 41, 42, 43, 44, 45, 46, 47, 48, 49, 50, 51, 52, 53, 9, 54, 55, 56, 57, 58, 59, 60, 61, 62, 63, 64, 65, 66, 67, 68, 86, 87, 88, 89, 90, 91, 92, 93, 94, 95, 96, 97, 98, 99, 100, 101, 102, 103, 104] rfl (by decide +kernel)
set_option maxRecDepth 20000 in
theorem gX5_regard_X0_stoops : GoodIn wsX5_regard (wsV RX5 160 RX0 yX0_stoops wsX0_stoops) := goodIn_app (goodIn_of _ (by decide +kernel)) ggX5_regard_X0_stoops
theorem dX5_regard_0 : decode cX5_regard 0 = .ok (.aload_n 0, 1) := by decide +kernel
theorem dX5_regard_1 : decode cX5_regard 1 = .ok (.getfield 44, 3) := by decide +kernel
theorem dX5_regard_4 : decode cX5_regard 4 = .ok (.iload_n 1, 1) := by decide +kernel
theorem dX5_regard_5 : decode cX5_regard 5 = .ok (.invokevirtual 118, 3) := by decide +kernel
theorem dX5_regard_8 : decode cX5_regard 8 = .ok (.ifCond .eq 12, 3) := by decide +kernel
theorem dX5_regard_11 : decode cX5_regard 11 = .ok (.iload_n 2, 1) := by decide +kernel
theorem dX5_regard_12 : decode cX5_regard 12 = .ok (.bipush 6, 2) := by decide +kernel
theorem dX5_regard_14 : decode cX5_regard 14 = .ok (.invokestatic 100, 3) := by decide +kernel
theorem dX5_regard_17 : decode cX5_regard 17 = .ok (.ifCond .ne 6, 3) := by decide +kernel
theorem dX5_regard_20 : decode cX5_regard 20 = .ok (.bipush (-5), 2) := by decide +kernel
theorem dX5_regard_22 : decode cX5_regard 22 = .ok (.ireturn, 1) := by decide +kernel
theorem dX5_regard_23 : decode cX5_regard 23 = .ok (.iload_n 3, 1) := by decide +kernel
theorem dX5_regard_24 : decode cX5_regard 24 = .ok (.lookupswitch 56 #[(0, 28), (1, 38)], 28) := by decide +kernel
theorem dX5_regard_52 : decode cX5_regard 52 = .ok (.aload_n 0, 1) := by decide +kernel
theorem dX5_regard_53 : decode cX5_regard 53 = .ok (.getfield 44, 3) := by decide +kernel
theorem dX5_regard_56 : decode cX5_regard 56 = .ok (.iload_n 1, 1) := by decide +kernel
theorem dX5_regard_57 : decode cX5_regard 57 = .ok (.iload_n 2, 1) := by decide +kernel
theorem dX5_regard_58 : decode cX5_regard 58 = .ok (.invokevirtual 156, 3) := by decide +kernel
theorem dX5_regard_61 : decode cX5_regard 61 = .ok (.ireturn, 1) := by decide +kernel
theorem dX5_regard_62 : decode cX5_regard 62 = .ok (.aload_n 0, 1) := by decide +kernel
theorem dX5_regard_63 : decode cX5_regard 63 = .ok (.getfield 44, 3) := by decide +kernel
theorem dX5_regard_66 : decode cX5_regard 66 = .ok (.iload_n 2, 1) := by decide +kernel
theorem dX5_regard_67 : decode cX5_regard 67 = .ok (.iload_n 1, 1) := by decide +kernel
theorem dX5_regard_68 : decode cX5_regard 68 = .ok (.invokevirtual 160, 3) := by decide +kernel
theorem dX5_regard_71 : decode cX5_regard 71 = .ok (.ifCond .eq 7, 3) := by decide +kernel
theorem dX5_regard_74 : decode cX5_regard 74 = .ok (.iconst 1, 1) := by decide +kernel
theorem dX5_regard_75 : decode cX5_regard 75 = .ok (.goto 4, 3) := by decide +kernel
theorem dX5_regard_78 : decode cX5_regard 78 = .ok (.iconst 0, 1) := by decide +kernel
theorem dX5_regard_79 : decode cX5_regard 79 = .ok (.ireturn, 1) := by decide +kernel
theorem dX5_regard_80 : decode cX5_regard 80 = .ok (.bipush (-7), 2) := by decide +kernel
theorem dX5_regard_82 : decode cX5_regard 82 = .ok (.ireturn, 1) := by decide +kernel
set_option maxRecDepth 20000 in
theorem ggX5_linen_X0_lies : GoodIn wsX5_linen wsX0_lies := goodIn_r _ [6, 7, 8, 9, 10, 22, 23, 24, 25, 26, 27, 28, 29, 30, 31, 32, 33, 34, 35, 36] rfl (by decide +kernel)
set_option maxRecDepth 20000 in
theorem gX5_linen_X0_lies : GoodIn wsX5_linen (wsV RX5 163 RX0 yX0_lies wsX0_lies) := goodIn_app (goodIn_of _ (by decide +kernel)) ggX5_linen_X0_lies
theorem dX5_linen_0 : decode cX5_linen 0 = .ok (.aload_n 0, 1) := by decide +kernel
theorem dX5_linen_1 : decode cX5_linen 1 = .ok (.getfield 44, 3) := by decide +kernel
theorem dX5_linen_4 : decode cX5_linen 4 = .ok (.iload_n 1, 1) := by decide +kernel
theorem dX5_linen_5 : decode cX5_linen 5 = .ok (.invokevirtual 163, 3) := by decide +kernel
theorem dX5_linen_8 : decode cX5_linen 8 = .ok (.ifCond .ne 6, 3) := by decide +kernel
theorem dX5_linen_11 : decode cX5_linen 11 = .ok (.bipush (-6), 2) := by decide +kernel
theorem dX5_linen_13 : decode cX5_linen 13 = .ok (.ireturn, 1) := by decide +kernel
theorem dX5_linen_14 : decode cX5_linen 14 = .ok (.iload_n 2, 1) := by decide +kernel
theorem dX5_linen_15 : decode cX5_linen 15 = .ok (.tableswitch 55 0 2 #[25, 35, 45], 25) := by decide +kernel
theorem dX5_linen_40 : decode cX5_linen 40 = .ok (.aload_n 0, 1) := by decide +kernel
theorem dX5_linen_41 : decode cX5_linen 41 = .ok (.getfield 44, 3) := by decide +kernel
theorem dX5_linen_44 : decode cX5_linen 44 = .ok (.getfield 166, 3) := by decide +kernel
theorem dX5_linen_47 : decode cX5_linen 47 = .ok (.iload_n 1, 1) := by decide +kernel
theorem dX5_linen_48 : decode cX5_linen 48 = .ok (.iaload, 1) := by decide +kernel
theorem dX5_linen_49 : decode cX5_linen 49 = .ok (.ireturn, 1) := by decide +kernel
theorem dX5_linen_50 : decode cX5_linen 50 = .ok (.aload_n 0, 1) := by decide +kernel
theorem dX5_linen_51 : decode cX5_linen 51 = .ok (.getfield 44, 3) := by decide +kernel
theorem dX5_linen_54 : decode cX5_linen 54 = .ok (.getfield 169, 3) := by decide +kernel
theorem dX5_linen_57 : decode cX5_linen 57 = .ok (.iload_n 1, 1) := by decide +kernel
theorem dX5_linen_58 : decode cX5_linen 58 = .ok (.iaload, 1) := by decide +kernel
theorem dX5_linen_59 : decode cX5_linen 59 = .ok (.ireturn, 1) := by decide +kernel
theorem dX5_linen_60 : decode cX5_linen 60 = .ok (.aload_n 0, 1) := by decide +kernel
theorem dX5_linen_61 : decode cX5_linen 61 = .ok (.getfield 44, 3) := by decide +kernel
theorem dX5_linen_64 : decode cX5_linen 64 = .ok (.getfield 172, 3) := by decide +kernel
theorem dX5_linen_67 : decode cX5_linen 67 = .ok (.iload_n 1, 1) := by decide +kernel
theorem dX5_linen_68 : decode cX5_linen 68 = .ok (.iaload, 1) := by decide +kernel
theorem dX5_linen_69 : decode cX5_linen 69 = .ok (.ireturn, 1) := by decide +kernel
theorem dX5_linen_70 : decode cX5_linen 70 = .ok (.bipush (-7), 2) := by decide +kernel
theorem dX5_linen_72 : decode cX5_linen 72 = .ok (.ireturn, 1) := by decide +kernel
set_option maxRecDepth 20000 in
theorem ggX5_drop_X0_hasWitness : GoodIn wsX5_drop wsX0_hasWitness := goodIn_r _ [6, 7, 8, 9, 10, 98, 99, 100, 101, 102, 103, 104, 105, 106, 107, 108, 109, 110, 111, 112] rfl (by decide +kernel)
set_option maxRecDepth 20000 in
theorem gX5_drop_X0_hasWitness : GoodIn wsX5_drop (wsV RX5 118 RX0 yX0_hasWitness wsX0_hasWitness) := goodIn_app (goodIn_of _ (by decide +kernel)) ggX5_drop_X0_hasWitness
set_option maxRecDepth 20000 in
theorem ggX5_drop_X0_canLetFall : GoodIn wsX5_drop wsX0_canLetFall := goodIn_r _ [14, 15, 16, 17, 18, 5, 19, 20, 98, 99, 100, 101, 102, 103, 104, 105, 106, 107, 108, 109, 110, 111, 112] rfl (by decide +kernel)
set_option maxRecDepth 20000 in
theorem gX5_drop_X0_canLetFall : GoodIn wsX5_drop (wsV RX5 175 RX0 yX0_canLetFall wsX0_canLetFall) := goodIn_app (goodIn_of _ (by decide +kernel)) ggX5_drop_X0_canLetFall
set_option maxRecDepth 20000 in
theorem ggX5_drop_X0_letFall : GoodIn wsX5_drop wsX0_letFall := goodIn_r _ [24, 20, 25, 26, 27, 28, 29, 5, 30, 15, 31, 32, 33, 34, 35, 36, 37, 38, 39, 40, 41, 42, 43, 44, 45, 46, 47, 48, 49, 50, 51, 52, 53, 54, 55, 16, 17, 18, 19, 56, 57, 58, 59, 60, 61, 62, 9, 63, 64, 65, 66, 67, 68, 69, 70, 71, 72, 73, 74, 75, 76, 77, 78, 79, 80, 81, 82, 83, 84, 85, 86, 98, 99, 100, 101, 102, 103, 104, 105, 106, 107, 108, 109, 110, 111, 112, 113, 114, 115, 116] rfl (by decide +kernel)
set_option maxRecDepth 20000 in
theorem gX5_drop_X0_letFall : GoodIn wsX5_drop (wsV RX5 178 RX0 yX0_letFall wsX0_letFall) := goodIn_app (goodIn_of _ (by decide +kernel)) ggX5_drop_X0_letFall
theorem dX5_drop_0 : decode cX5_drop 0 = .ok (.aload_n 0, 1) := by decide +kernel
theorem dX5_drop_1 : decode cX5_drop 1 = .ok (.getfield 44, 3) := by decide +kernel
theorem dX5_drop_4 : decode cX5_drop 4 = .ok (.iload_n 1, 1) := by decide +kernel
theorem dX5_drop_5 : decode cX5_drop 5 = .ok (.invokevirtual 118, 3) := by decide +kernel
theorem dX5_drop_8 : decode cX5_drop 8 = .ok (.ifCond .ne 6, 3) := by decide +kernel
theorem dX5_drop_11 : decode cX5_drop 11 = .ok (.bipush (-5), 2) := by decide +kernel
theorem dX5_drop_13 : decode cX5_drop 13 = .ok (.ireturn, 1) := by decide +kernel
theorem dX5_drop_14 : decode cX5_drop 14 = .ok (.aload_n 0, 1) := by decide +kernel
theorem dX5_drop_15 : decode cX5_drop 15 = .ok (.getfield 44, 3) := by decide +kernel
theorem dX5_drop_18 : decode cX5_drop 18 = .ok (.getfield 129, 3) := by decide +kernel
theorem dX5_drop_21 : decode cX5_drop 21 = .ok (.iload_n 1, 1) := by decide +kernel
theorem dX5_drop_22 : decode cX5_drop 22 = .ok (.iaload, 1) := by decide +kernel
theorem dX5_drop_23 : decode cX5_drop 23 = .ok (.ifCond .ne 5, 3) := by decide +kernel
theorem dX5_drop_26 : decode cX5_drop 26 = .ok (.iconst (-1), 1) := by decide +kernel
theorem dX5_drop_27 : decode cX5_drop 27 = .ok (.ireturn, 1) := by decide +kernel
theorem dX5_drop_28 : decode cX5_drop 28 = .ok (.aload_n 0, 1) := by decide +kernel
theorem dX5_drop_29 : decode cX5_drop 29 = .ok (.getfield 44, 3) := by decide +kernel
theorem dX5_drop_32 : decode cX5_drop 32 = .ok (.iload_n 1, 1) := by decide +kernel
theorem dX5_drop_33 : decode cX5_drop 33 = .ok (.invokevirtual 175, 3) := by decide +kernel
theorem dX5_drop_36 : decode cX5_drop 36 = .ok (.ifCond .eq 14, 3) := by decide +kernel
theorem dX5_drop_39 : decode cX5_drop 39 = .ok (.aload_n 0, 1) := by decide +kernel
theorem dX5_drop_40 : decode cX5_drop 40 = .ok (.getfield 44, 3) := by decide +kernel
theorem dX5_drop_43 : decode cX5_drop 43 = .ok (.iload_n 1, 1) := by decide +kernel
theorem dX5_drop_44 : decode cX5_drop 44 = .ok (.invokevirtual 178, 3) := by decide +kernel
theorem dX5_drop_47 : decode cX5_drop 47 = .ok (.goto 5, 3) := by decide +kernel
theorem dX5_drop_50 : decode cX5_drop 50 = .ok (.bipush (-4), 2) := by decide +kernel
theorem dX5_drop_52 : decode cX5_drop 52 = .ok (.ireturn, 1) := by decide +kernel
set_option maxRecDepth 20000 in
theorem ggX5_hour_X0_passHours : GoodIn wsX5_hour wsX0_passHours := goodIn_r _ [6, 7, 8, 9, 10, 11, 12, 13, 14, 5, 15, 16, 17, 18, 19, 20, 21, 22, 23, 24, 25, 26, 27, 28, 29, 30, 31, 32, 33, 34, 35, 36, 37, 38, 39, 40, 41, 42, 43, 44, 45, 46, 47, 48, 49, 50, 51, 52, 53, 54, 55, 56, 57, 58, 59, 60, 61, 62, 63, 64, 65, 66, 67, 68, 69, 70, 71, 72, 73, 85, 86, 87, 88, 89, 90, 91, 92, 93, 94, 95, 96, 97, 98, 99, 100, 101, 102, 103] rfl (by decide +kernel)
set_option maxRecDepth 20000 in
theorem gX5_hour_X0_passHours : GoodIn wsX5_hour (wsV RX5 181 RX0 yX0_passHours wsX0_passHours) := goodIn_app (goodIn_of _ (by decide +kernel)) ggX5_hour_X0_passHours
theorem dX5_hour_0 : decode cX5_hour 0 = .ok (.aload_n 0, 1) := by decide +kernel
theorem dX5_hour_1 : decode cX5_hour 1 = .ok (.getfield 44, 3) := by decide +kernel
theorem dX5_hour_4 : decode cX5_hour 4 = .ok (.getfield 58, 3) := by decide +kernel
theorem dX5_hour_7 : decode cX5_hour 7 = .ok (.sipush 999, 3) := by decide +kernel
theorem dX5_hour_10 : decode cX5_hour 10 = .ok (.if_icmp .lt 8, 3) := by decide +kernel
theorem dX5_hour_13 : decode cX5_hour 13 = .ok (.bipush (-3), 2) := by decide +kernel
theorem dX5_hour_15 : decode cX5_hour 15 = .ok (.goto 11, 3) := by decide +kernel
theorem dX5_hour_18 : decode cX5_hour 18 = .ok (.aload_n 0, 1) := by decide +kernel
theorem dX5_hour_19 : decode cX5_hour 19 = .ok (.getfield 44, 3) := by decide +kernel
theorem dX5_hour_22 : decode cX5_hour 22 = .ok (.iconst 1, 1) := by decide +kernel
theorem dX5_hour_23 : decode cX5_hour 23 = .ok (.invokevirtual 181, 3) := by decide +kernel
theorem dX5_hour_26 : decode cX5_hour 26 = .ok (.ireturn, 1) := by decide +kernel
set_option maxRecDepth 20000 in
theorem ggX5_burn_X0_lies : GoodIn wsX5_burn wsX0_lies := goodIn_r _ [6, 7, 8, 9, 10, 22, 23, 24, 25, 26, 27, 28, 29, 30, 31, 32, 33, 34, 35, 36] rfl (by decide +kernel)
set_option maxRecDepth 20000 in
theorem gX5_burn_X0_lies : GoodIn wsX5_burn (wsV RX5 163 RX0 yX0_lies wsX0_lies) := goodIn_app (goodIn_of _ (by decide +kernel)) ggX5_burn_X0_lies
theorem dX5_burn_0 : decode cX5_burn 0 = .ok (.aload_n 0, 1) := by decide +kernel
theorem dX5_burn_1 : decode cX5_burn 1 = .ok (.getfield 44, 3) := by decide +kernel
theorem dX5_burn_4 : decode cX5_burn 4 = .ok (.iload_n 1, 1) := by decide +kernel
theorem dX5_burn_5 : decode cX5_burn 5 = .ok (.invokevirtual 163, 3) := by decide +kernel
theorem dX5_burn_8 : decode cX5_burn 8 = .ok (.ifCond .ne 6, 3) := by decide +kernel
theorem dX5_burn_11 : decode cX5_burn 11 = .ok (.bipush (-6), 2) := by decide +kernel
theorem dX5_burn_13 : decode cX5_burn 13 = .ok (.ireturn, 1) := by decide +kernel
theorem dX5_burn_14 : decode cX5_burn 14 = .ok (.aload_n 0, 1) := by decide +kernel
theorem dX5_burn_15 : decode cX5_burn 15 = .ok (.getfield 44, 3) := by decide +kernel
theorem dX5_burn_18 : decode cX5_burn 18 = .ok (.getfield 166, 3) := by decide +kernel
theorem dX5_burn_21 : decode cX5_burn 21 = .ok (.iload_n 1, 1) := by decide +kernel
theorem dX5_burn_22 : decode cX5_burn 22 = .ok (.iconst (-1), 1) := by decide +kernel
theorem dX5_burn_23 : decode cX5_burn 23 = .ok (.iastore, 1) := by decide +kernel
theorem dX5_burn_24 : decode cX5_burn 24 = .ok (.aload_n 0, 1) := by decide +kernel
theorem dX5_burn_25 : decode cX5_burn 25 = .ok (.getfield 44, 3) := by decide +kernel
theorem dX5_burn_28 : decode cX5_burn 28 = .ok (.getfield 169, 3) := by decide +kernel
theorem dX5_burn_31 : decode cX5_burn 31 = .ok (.iload_n 1, 1) := by decide +kernel
theorem dX5_burn_32 : decode cX5_burn 32 = .ok (.iaload, 1) := by decide +kernel
theorem dX5_burn_33 : decode cX5_burn 33 = .ok (.ireturn, 1) := by decide +kernel
set_option maxRecDepth 20000 in
theorem ggX5_run_X0_hasWitness : GoodIn wsX5_run wsX0_hasWitness := goodIn_r _ [7, 8, 9, 10, 11, 112, 113, 114, 115, 116, 117, 118, 119, 120, 121, 122, 123, 124, 125, 126] rfl (by decide +kernel)
set_option maxRecDepth 20000 in
theorem gX5_run_X0_hasWitness : GoodIn wsX5_run (wsV RX5 118 RX0 yX0_hasWitness wsX0_hasWitness) := goodIn_app (goodIn_of _ (by decide +kernel)) ggX5_run_X0_hasWitness
set_option maxRecDepth 20000 in
theorem ggX5_run_X5_isBelow : GoodIn wsX5_run wsX5_isBelow := goodIn_r _ [11] rfl (by decide +kernel)
set_option maxRecDepth 20000 in
theorem gX5_run_X5_isBelow : GoodIn wsX5_run (va_wsS RX5 100 yX5_isBelow wsX5_isBelow) := goodIn_app (goodIn_of _ (by decide +kernel)) ggX5_run_X5_isBelow
set_option maxRecDepth 20000 in
theorem ggX5_run_X0_become : GoodIn wsX5_run wsX0_become := goodIn_r _ [16, 17, 18, 19, 20, 21, 22, 23, 24, 25, 26, 27, 28, 29, 30, 31, 32, 8, 33, 112, 113, 114, 115, 116, 117, 118, 119, 120, 121, 122, 123, 124, 125, 126] rfl (by decide +kernel)
set_option maxRecDepth 20000 in
theorem gX5_run_X0_become : GoodIn wsX5_run (wsV RX5 184 RX0 yX0_become wsX0_become) := goodIn_app (goodIn_of _ (by decide +kernel)) ggX5_run_X0_become
set_option maxRecDepth 20000 in
theorem ggX5_run_X0_passHours : GoodIn wsX5_run wsX0_passHours := goodIn_r _ [37, 32, 28, 22, 29, 31, 38, 39, 40, 6, 41, 33, 23, 24, 42, 43, 44, 45, 46, 47, 48, 49, 50, 51, 52, 53, 26, 25, 54, 55, 56, 57, 58, 59, 60, 61, 62, 63, 64, 65, 66, 67, 68, 69, 70, 71, 10, 72, 73, 74, 75, 76, 77, 78, 79, 80, 81, 82, 83, 84, 85, 86, 87, 88, 89, 90, 30, 27, 91, 112, 113, 114, 115, 116, 117, 118, 119, 120, 121, 122, 123, 124, 125, 126, 127, 128, 129, 130] rfl (by decide +kernel)
set_option maxRecDepth 20000 in
theorem gX5_run_X0_passHours : GoodIn wsX5_run (wsV RX5 181 RX0 yX0_passHours wsX0_passHours) := goodIn_app (goodIn_of _ (by decide +kernel)) ggX5_run_X0_passHours
set_option maxRecDepth 20000 in
theorem ggX5_run_X0_verdict : GoodIn wsX5_run wsX0_verdict := goodIn_r _ [95, 31, 96, 97, 98, 6, 99, 17, 112, 113, 114, 115, 116, 117, 118, 119, 120, 121, 122, 123, 124, 125, 126] rfl (by decide +kernel)
set_option maxRecDepth 20000 in
theorem gX5_run_X0_verdict : GoodIn wsX5_run (wsV RX5 97 RX0 yX0_verdict wsX0_verdict) := goodIn_app (goodIn_of _ (by decide +kernel)) ggX5_run_X0_verdict
set_option maxRecDepth 20000 in
theorem ggX5_run_X0_lying : GoodIn wsX5_run wsX0_lying := goodIn_r _ [64, 28, 112, 113, 114, 115, 116, 117, 118, 119, 120, 121, 122, 123, 124, 125, 126] rfl (by decide +kernel)
set_option maxRecDepth 20000 in
theorem gX5_run_X0_lying : GoodIn wsX5_run (wsV RX5 61 RX0 yX0_lying wsX0_lying) := goodIn_app (goodIn_of _ (by decide +kernel)) ggX5_run_X0_lying
theorem dX5_run_0 : decode cX5_run 0 = .ok (.iload_n 2, 1) := by decide +kernel
theorem dX5_run_1 : decode cX5_run 1 = .ok (.bipush 10, 2) := by decide +kernel
theorem dX5_run_3 : decode cX5_run 3 = .ok (.if_icmp .lt 21, 3) := by decide +kernel
theorem dX5_run_6 : decode cX5_run 6 = .ok (.aload_n 0, 1) := by decide +kernel
theorem dX5_run_7 : decode cX5_run 7 = .ok (.getfield 44, 3) := by decide +kernel
theorem dX5_run_10 : decode cX5_run 10 = .ok (.iload_n 2, 1) := by decide +kernel
theorem dX5_run_11 : decode cX5_run 11 = .ok (.bipush 10, 2) := by decide +kernel
theorem dX5_run_13 : decode cX5_run 13 = .ok (.isub, 1) := by decide +kernel
theorem dX5_run_14 : decode cX5_run 14 = .ok (.invokevirtual 118, 3) := by decide +kernel
theorem dX5_run_17 : decode cX5_run 17 = .ok (.ifCond .eq 7, 3) := by decide +kernel
theorem dX5_run_20 : decode cX5_run 20 = .ok (.iconst 1, 1) := by decide +kernel
theorem dX5_run_21 : decode cX5_run 21 = .ok (.goto 4, 3) := by decide +kernel
theorem dX5_run_24 : decode cX5_run 24 = .ok (.iconst 0, 1) := by decide +kernel
theorem dX5_run_25 : decode cX5_run 25 = .ok (.istore_n 3, 1) := by decide +kernel
theorem dX5_run_26 : decode cX5_run 26 = .ok (.iload_n 1, 1) := by decide +kernel
theorem dX5_run_27 : decode cX5_run 27 = .ok (.bipush 41, 2) := by decide +kernel
theorem dX5_run_29 : decode cX5_run 29 = .ok (.invokestatic 100, 3) := by decide +kernel
theorem dX5_run_32 : decode cX5_run 32 = .ok (.ifCond .eq 15, 3) := by decide +kernel
theorem dX5_run_35 : decode cX5_run 35 = .ok (.iload_n 2, 1) := by decide +kernel
theorem dX5_run_36 : decode cX5_run 36 = .ok (.iconst 3, 1) := by decide +kernel
theorem dX5_run_37 : decode cX5_run 37 = .ok (.invokestatic 100, 3) := by decide +kernel
theorem dX5_run_40 : decode cX5_run 40 = .ok (.ifCond .ne 11, 3) := by decide +kernel
theorem dX5_run_43 : decode cX5_run 43 = .ok (.iload_n 3, 1) := by decide +kernel
theorem dX5_run_44 : decode cX5_run 44 = .ok (.ifCond .ne 7, 3) := by decide +kernel
theorem dX5_run_47 : decode cX5_run 47 = .ok (.sipush (-5000), 3) := by decide +kernel
theorem dX5_run_50 : decode cX5_run 50 = .ok (.ireturn, 1) := by decide +kernel
theorem dX5_run_51 : decode cX5_run 51 = .ok (.aload_n 0, 1) := by decide +kernel
theorem dX5_run_52 : decode cX5_run 52 = .ok (.getfield 51, 3) := by decide +kernel
theorem dX5_run_55 : decode cX5_run 55 = .ok (.aload_n 0, 1) := by decide +kernel
theorem dX5_run_56 : decode cX5_run 56 = .ok (.getfield 44, 3) := by decide +kernel
theorem dX5_run_59 : decode cX5_run 59 = .ok (.invokevirtual 184, 3) := by decide +kernel
theorem dX5_run_62 : decode cX5_run 62 = .ok (.aload_n 0, 1) := by decide +kernel
theorem dX5_run_63 : decode cX5_run 63 = .ok (.getfield 51, 3) := by decide +kernel
theorem dX5_run_66 : decode cX5_run 66 = .ok (.iload_n 1, 1) := by decide +kernel
theorem dX5_run_67 : decode cX5_run 67 = .ok (.invokevirtual 181, 3) := by decide +kernel
theorem dX5_run_70 : decode cX5_run 70 = .ok (.pop, 1) := by decide +kernel
theorem dX5_run_71 : decode cX5_run 71 = .ok (.iload_n 2, 1) := by decide +kernel
theorem dX5_run_72 : decode cX5_run 72 = .ok (.tableswitch 52 0 2 #[28, 36, 44], 28) := by decide +kernel
theorem dX5_run_100 : decode cX5_run 100 = .ok (.aload_n 0, 1) := by decide +kernel
theorem dX5_run_101 : decode cX5_run 101 = .ok (.getfield 51, 3) := by decide +kernel
theorem dX5_run_104 : decode cX5_run 104 = .ok (.getfield 94, 3) := by decide +kernel
theorem dX5_run_107 : decode cX5_run 107 = .ok (.ireturn, 1) := by decide +kernel
theorem dX5_run_108 : decode cX5_run 108 = .ok (.aload_n 0, 1) := by decide +kernel
theorem dX5_run_109 : decode cX5_run 109 = .ok (.getfield 51, 3) := by decide +kernel
theorem dX5_run_112 : decode cX5_run 112 = .ok (.invokevirtual 97, 3) := by decide +kernel
theorem dX5_run_115 : decode cX5_run 115 = .ok (.ireturn, 1) := by decide +kernel
theorem dX5_run_116 : decode cX5_run 116 = .ok (.aload_n 0, 1) := by decide +kernel
theorem dX5_run_117 : decode cX5_run 117 = .ok (.getfield 51, 3) := by decide +kernel
theorem dX5_run_120 : decode cX5_run 120 = .ok (.invokevirtual 61, 3) := by decide +kernel
theorem dX5_run_123 : decode cX5_run 123 = .ok (.ireturn, 1) := by decide +kernel
theorem dX5_run_124 : decode cX5_run 124 = .ok (.iload_n 3, 1) := by decide +kernel
theorem dX5_run_125 : decode cX5_run 125 = .ok (.ifCond .eq 18, 3) := by decide +kernel
theorem dX5_run_128 : decode cX5_run 128 = .ok (.aload_n 0, 1) := by decide +kernel
theorem dX5_run_129 : decode cX5_run 129 = .ok (.getfield 51, 3) := by decide +kernel
theorem dX5_run_132 : decode cX5_run 132 = .ok (.getfield 135, 3) := by decide +kernel
theorem dX5_run_135 : decode cX5_run 135 = .ok (.iload_n 2, 1) := by decide +kernel
theorem dX5_run_136 : decode cX5_run 136 = .ok (.bipush 10, 2) := by decide +kernel
theorem dX5_run_138 : decode cX5_run 138 = .ok (.isub, 1) := by decide +kernel
theorem dX5_run_139 : decode cX5_run 139 = .ok (.iaload, 1) := by decide +kernel
theorem dX5_run_140 : decode cX5_run 140 = .ok (.goto 6, 3) := by decide +kernel
theorem dX5_run_143 : decode cX5_run 143 = .ok (.sipush (-5000), 3) := by decide +kernel
theorem dX5_run_146 : decode cX5_run 146 = .ok (.ireturn, 1) := by decide +kernel
set_option maxRecDepth 20000 in
theorem ggX5_when_X5_isBelow : GoodIn wsX5_when wsX5_isBelow := goodIn_r _ [6] rfl (by decide +kernel)
set_option maxRecDepth 20000 in
theorem gX5_when_X5_isBelow : GoodIn wsX5_when (va_wsS RX5 100 yX5_isBelow wsX5_isBelow) := goodIn_app (goodIn_of _ (by decide +kernel)) ggX5_when_X5_isBelow
set_option maxRecDepth 20000 in
theorem ggX5_when_X0_become : GoodIn wsX5_when wsX0_become := goodIn_r _ [11, 12, 13, 14, 15, 16, 17, 18, 19, 20, 21, 22, 23, 24, 25, 26, 27, 28, 29, 104, 105, 106, 107, 108, 109, 110, 111, 112, 113, 114, 115, 116, 117, 118] rfl (by decide +kernel)
set_option maxRecDepth 20000 in
theorem gX5_when_X0_become : GoodIn wsX5_when (wsV RX5 184 RX0 yX0_become wsX0_become) := goodIn_app (goodIn_of _ (by decide +kernel)) ggX5_when_X0_become
set_option maxRecDepth 20000 in
theorem ggX5_when_X0_lying : GoodIn wsX5_when wsX0_lying := goodIn_r _ [33, 23, 104, 105, 106, 107, 108, 109, 110, 111, 112, 113, 114, 115, 116, 117, 118] rfl (by decide +kernel)
set_option maxRecDepth 20000 in
theorem gX5_when_X0_lying : GoodIn wsX5_when (wsV RX5 61 RX0 yX0_lying wsX0_lying) := goodIn_app (goodIn_of _ (by decide +kernel)) ggX5_when_X0_lying
set_option maxRecDepth 20000 in
theorem ggX5_when_X0_isAdmitted : GoodIn wsX5_when wsX0_isAdmitted := goodIn_r _ [37, 26, 104, 105, 106, 107, 108, 109, 110, 111, 112, 113, 114, 115, 116, 117, 118] rfl (by decide +kernel)
set_option maxRecDepth 20000 in
theorem gX5_when_X0_isAdmitted : GoodIn wsX5_when (wsV RX5 188 RX0 yX0_isAdmitted wsX0_isAdmitted) := goodIn_app (goodIn_of _ (by decide +kernel)) ggX5_when_X0_isAdmitted
set_option maxRecDepth 20000 in
theorem ggX5_when_X0_passHours : GoodIn wsX5_when wsX0_passHours := goodIn_r _ [41, 27, 23, 17, 24, 26, 42, 43, 44, 10, 45, 29, 18, 19, 46, 47, 48, 49, 50, 51, 52, 53, 54, 55, 56, 57, 21, 20, 58, 59, 60, 61, 62, 63, 64, 65, 31, 32, 33, 66, 67, 68, 69, 70, 71, 72, 5, 73, 74, 75, 76, 77, 78, 79, 80, 81, 82, 83, 84, 85, 86, 87, 88, 89, 90, 91, 25, 22, 92, 104, 105, 106, 107, 108, 109, 110, 111, 112, 113, 114, 115, 116, 117, 118, 119, 120, 121, 122] rfl (by decide +kernel)
set_option maxRecDepth 20000 in
theorem gX5_when_X0_passHours : GoodIn wsX5_when (wsV RX5 181 RX0 yX0_passHours wsX0_passHours) := goodIn_app (goodIn_of _ (by decide +kernel)) ggX5_when_X0_passHours
theorem dX5_when_0 : decode cX5_when 0 = .ok (.iload_n 1, 1) := by decide +kernel
theorem dX5_when_1 : decode cX5_when 1 = .ok (.iconst (-1), 1) := by decide +kernel
theorem dX5_when_2 : decode cX5_when 2 = .ok (.if_icmp .eq 15, 3) := by decide +kernel
theorem dX5_when_5 : decode cX5_when 5 = .ok (.iload_n 1, 1) := by decide +kernel
theorem dX5_when_6 : decode cX5_when 6 = .ok (.bipush 10, 2) := by decide +kernel
theorem dX5_when_8 : decode cX5_when 8 = .ok (.invokestatic 100, 3) := by decide +kernel
theorem dX5_when_11 : decode cX5_when 11 = .ok (.ifCond .ne 6, 3) := by decide +kernel
theorem dX5_when_14 : decode cX5_when 14 = .ok (.bipush (-7), 2) := by decide +kernel
theorem dX5_when_16 : decode cX5_when 16 = .ok (.ireturn, 1) := by decide +kernel
theorem dX5_when_17 : decode cX5_when 17 = .ok (.aload_n 0, 1) := by decide +kernel
theorem dX5_when_18 : decode cX5_when 18 = .ok (.getfield 51, 3) := by decide +kernel
theorem dX5_when_21 : decode cX5_when 21 = .ok (.aload_n 0, 1) := by decide +kernel
theorem dX5_when_22 : decode cX5_when 22 = .ok (.getfield 44, 3) := by decide +kernel
theorem dX5_when_25 : decode cX5_when 25 = .ok (.invokevirtual 184, 3) := by decide +kernel
theorem dX5_when_28 : decode cX5_when 28 = .ok (.iconst 0, 1) := by decide +kernel
theorem dX5_when_29 : decode cX5_when 29 = .ok (.istore_n 2, 1) := by decide +kernel
theorem dX5_when_30 : decode cX5_when 30 = .ok (.iload_n 2, 1) := by decide +kernel
theorem dX5_when_31 : decode cX5_when 31 = .ok (.bipush 60, 2) := by decide +kernel
theorem dX5_when_33 : decode cX5_when 33 = .ok (.if_icmp .gt 49, 3) := by decide +kernel
theorem dX5_when_36 : decode cX5_when 36 = .ok (.iload_n 1, 1) := by decide +kernel
theorem dX5_when_37 : decode cX5_when 37 = .ok (.iconst (-1), 1) := by decide +kernel
theorem dX5_when_38 : decode cX5_when 38 = .ok (.if_icmp .ne 16, 3) := by decide +kernel
theorem dX5_when_41 : decode cX5_when 41 = .ok (.aload_n 0, 1) := by decide +kernel
theorem dX5_when_42 : decode cX5_when 42 = .ok (.getfield 51, 3) := by decide +kernel
theorem dX5_when_45 : decode cX5_when 45 = .ok (.invokevirtual 61, 3) := by decide +kernel
theorem dX5_when_48 : decode cX5_when 48 = .ok (.ifCond .ne 19, 3) := by decide +kernel
theorem dX5_when_51 : decode cX5_when 51 = .ok (.goto 14, 3) := by decide +kernel
theorem dX5_when_54 : decode cX5_when 54 = .ok (.aload_n 0, 1) := by decide +kernel
theorem dX5_when_55 : decode cX5_when 55 = .ok (.getfield 51, 3) := by decide +kernel
theorem dX5_when_58 : decode cX5_when 58 = .ok (.iload_n 1, 1) := by decide +kernel
theorem dX5_when_59 : decode cX5_when 59 = .ok (.invokevirtual 188, 3) := by decide +kernel
theorem dX5_when_62 : decode cX5_when 62 = .ok (.ifCond .eq 5, 3) := by decide +kernel
theorem dX5_when_65 : decode cX5_when 65 = .ok (.iload_n 2, 1) := by decide +kernel
theorem dX5_when_66 : decode cX5_when 66 = .ok (.ireturn, 1) := by decide +kernel
theorem dX5_when_67 : decode cX5_when 67 = .ok (.aload_n 0, 1) := by decide +kernel
theorem dX5_when_68 : decode cX5_when 68 = .ok (.getfield 51, 3) := by decide +kernel
theorem dX5_when_71 : decode cX5_when 71 = .ok (.iconst 1, 1) := by decide +kernel
theorem dX5_when_72 : decode cX5_when 72 = .ok (.invokevirtual 181, 3) := by decide +kernel
theorem dX5_when_75 : decode cX5_when 75 = .ok (.pop, 1) := by decide +kernel
theorem dX5_when_76 : decode cX5_when 76 = .ok (.iinc 2 1, 3) := by decide +kernel
theorem dX5_when_79 : decode cX5_when 79 = .ok (.goto (-49), 3) := by decide +kernel
theorem dX5_when_82 : decode cX5_when 82 = .ok (.iconst (-1), 1) := by decide +kernel
theorem dX5_when_83 : decode cX5_when 83 = .ok (.ireturn, 1) := by decide +kernel
set_option maxRecDepth 20000 in
theorem ggX5_fate_X0_lies : GoodIn wsX5_fate wsX0_lies := goodIn_r _ [7, 8, 9, 10, 11, 103, 104, 105, 106, 107, 108, 109, 110, 111, 112, 113, 114, 115, 116, 117] rfl (by decide +kernel)
set_option maxRecDepth 20000 in
theorem gX5_fate_X0_lies : GoodIn wsX5_fate (wsV RX5 163 RX0 yX0_lies wsX0_lies) := goodIn_app (goodIn_of _ (by decide +kernel)) ggX5_fate_X0_lies
set_option maxRecDepth 20000 in
theorem ggX5_fate_X5_isBelow : GoodIn wsX5_fate wsX5_isBelow := goodIn_r _ [11] rfl (by decide +kernel)
set_option maxRecDepth 20000 in
theorem gX5_fate_X5_isBelow : GoodIn wsX5_fate (va_wsS RX5 100 yX5_isBelow wsX5_isBelow) := goodIn_app (goodIn_of _ (by decide +kernel)) ggX5_fate_X5_isBelow
set_option maxRecDepth 20000 in
theorem ggX5_fate_X0_become : GoodIn wsX5_fate wsX0_become := goodIn_r _ [16, 17, 18, 19, 20, 21, 22, 23, 24, 25, 26, 27, 8, 28, 29, 30, 31, 32, 33, 103, 104, 105, 106, 107, 108, 109, 110, 111, 112, 113, 114, 115, 116, 117] rfl (by decide +kernel)
set_option maxRecDepth 20000 in
theorem gX5_fate_X0_become : GoodIn wsX5_fate (wsV RX5 184 RX0 yX0_become wsX0_become) := goodIn_app (goodIn_of _ (by decide +kernel)) ggX5_fate_X0_become
set_option maxRecDepth 20000 in
theorem ggX5_fate_X0_passHours : GoodIn wsX5_fate wsX0_passHours := goodIn_r _ [37, 31, 8, 22, 28, 30, 38, 39, 40, 6, 41, 33, 23, 24, 42, 43, 44, 45, 46, 47, 48, 49, 50, 51, 52, 53, 26, 25, 54, 55, 56, 57, 58, 59, 60, 61, 62, 63, 64, 65, 66, 67, 68, 69, 70, 71, 10, 72, 73, 74, 75, 76, 77, 78, 79, 80, 81, 82, 83, 84, 85, 86, 87, 88, 89, 90, 29, 27, 91, 103, 104, 105, 106, 107, 108, 109, 110, 111, 112, 113, 114, 115, 116, 117, 118, 119, 120, 121] rfl (by decide +kernel)
set_option maxRecDepth 20000 in
theorem gX5_fate_X0_passHours : GoodIn wsX5_fate (wsV RX5 181 RX0 yX0_passHours wsX0_passHours) := goodIn_app (goodIn_of _ (by decide +kernel)) ggX5_fate_X0_passHours
theorem dX5_fate_0 : decode cX5_fate 0 = .ok (.aload_n 0, 1) := by decide +kernel
theorem dX5_fate_1 : decode cX5_fate 1 = .ok (.getfield 44, 3) := by decide +kernel
theorem dX5_fate_4 : decode cX5_fate 4 = .ok (.iload_n 1, 1) := by decide +kernel
theorem dX5_fate_5 : decode cX5_fate 5 = .ok (.invokevirtual 163, 3) := by decide +kernel
theorem dX5_fate_8 : decode cX5_fate 8 = .ok (.ifCond .ne 6, 3) := by decide +kernel
theorem dX5_fate_11 : decode cX5_fate 11 = .ok (.bipush (-6), 2) := by decide +kernel
theorem dX5_fate_13 : decode cX5_fate 13 = .ok (.ireturn, 1) := by decide +kernel
theorem dX5_fate_14 : decode cX5_fate 14 = .ok (.iload_n 2, 1) := by decide +kernel
theorem dX5_fate_15 : decode cX5_fate 15 = .ok (.iconst 2, 1) := by decide +kernel
theorem dX5_fate_16 : decode cX5_fate 16 = .ok (.invokestatic 100, 3) := by decide +kernel
theorem dX5_fate_19 : decode cX5_fate 19 = .ok (.ifCond .ne 6, 3) := by decide +kernel
theorem dX5_fate_22 : decode cX5_fate 22 = .ok (.bipush (-7), 2) := by decide +kernel
theorem dX5_fate_24 : decode cX5_fate 24 = .ok (.ireturn, 1) := by decide +kernel
theorem dX5_fate_25 : decode cX5_fate 25 = .ok (.aload_n 0, 1) := by decide +kernel
theorem dX5_fate_26 : decode cX5_fate 26 = .ok (.getfield 51, 3) := by decide +kernel
theorem dX5_fate_29 : decode cX5_fate 29 = .ok (.aload_n 0, 1) := by decide +kernel
theorem dX5_fate_30 : decode cX5_fate 30 = .ok (.getfield 44, 3) := by decide +kernel
theorem dX5_fate_33 : decode cX5_fate 33 = .ok (.invokevirtual 184, 3) := by decide +kernel
theorem dX5_fate_36 : decode cX5_fate 36 = .ok (.iconst 0, 1) := by decide +kernel
theorem dX5_fate_37 : decode cX5_fate 37 = .ok (.istore_n 3, 1) := by decide +kernel
theorem dX5_fate_38 : decode cX5_fate 38 = .ok (.iload_n 3, 1) := by decide +kernel
theorem dX5_fate_39 : decode cX5_fate 39 = .ok (.bipush 99, 2) := by decide +kernel
theorem dX5_fate_41 : decode cX5_fate 41 = .ok (.if_icmp .ge 29, 3) := by decide +kernel
theorem dX5_fate_44 : decode cX5_fate 44 = .ok (.aload_n 0, 1) := by decide +kernel

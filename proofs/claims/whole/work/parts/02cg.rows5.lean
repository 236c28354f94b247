theorem dX5_firstOtherwise_50 : decode cX5_firstOtherwise 50 = .ok (.goto (-41), 3) := by decide +kernel
theorem dX5_firstOtherwise_53 : decode cX5_firstOtherwise 53 = .ok (.iconst (-1), 1) := by decide +kernel
theorem dX5_firstOtherwise_54 : decode cX5_firstOtherwise 54 = .ok (.ireturn, 1) := by decide +kernel
set_option maxRecDepth 20000 in
theorem ggX5_fitting_X0_become : GoodIn wsX5_fitting wsX0_become := goodIn_r _ [7, 8, 9, 10, 11, 12, 13, 14, 15, 16, 17, 18, 19, 20, 21, 22, 23, 24, 25, 102, 103, 104, 105, 106, 107, 108, 109, 110, 111, 112, 113, 114, 115, 116] rfl (by decide +kernel)
set_option maxRecDepth 20000 in
theorem gX5_fitting_X0_become : GoodIn wsX5_fitting (wsV RX5 184 RX0 yX0_become wsX0_become) := goodIn_app (goodIn_of _ (by decide +kernel)) ggX5_fitting_X0_become
set_option maxRecDepth 20000 in
theorem ggX5_fitting_X5_firstOtherwise : GoodIn wsX5_fitting wsX5_firstOtherwise := goodIn_r _ [30, 31, 1, 32, 33, 34, 6, 35, 23, 19, 13, 20, 22, 36, 37, 38, 39, 25, 14, 15, 40, 41, 42, 43, 44, 45, 46, 47, 48, 49, 50, 51, 17, 16, 52, 53, 54, 55, 56, 57, 58, 59, 60, 61, 62, 63, 64, 65, 66, 67, 68, 69, 29, 70, 71, 72, 73, 74, 75, 76, 77, 78, 79, 80, 81, 82, 83, 84, 85, 86, 87, 88, 21, 18, 89, 90, 91, 92, 93, 94, 95, 96, 97, 98, 99, 100, 101, 117, 118, 119, 102, 103, 104, 105, 106, 107, 108, 109, 110, 111, 112, 113, 114, 115, 116, 120, 121, 122, 123] rfl (by decide +kernel)
set_option maxRecDepth 20000 in
theorem gX5_fitting_X5_firstOtherwise : GoodIn wsX5_fitting (wsV RX5 233 RX5 yX5_firstOtherwise wsX5_firstOtherwise) := goodIn_app (goodIn_of _ (by decide +kernel)) ggX5_fitting_X5_firstOtherwise
theorem dX5_fitting_0 : decode cX5_fitting 0 = .ok (.iconst 0, 1) := by decide +kernel
theorem dX5_fitting_1 : decode cX5_fitting 1 = .ok (.istore 5, 2) := by decide +kernel
theorem dX5_fitting_3 : decode cX5_fitting 3 = .ok (.iconst (-1), 1) := by decide +kernel
theorem dX5_fitting_4 : decode cX5_fitting 4 = .ok (.istore 6, 2) := by decide +kernel
theorem dX5_fitting_6 : decode cX5_fitting 6 = .ok (.iconst 0, 1) := by decide +kernel
theorem dX5_fitting_7 : decode cX5_fitting 7 = .ok (.istore 7, 2) := by decide +kernel
theorem dX5_fitting_9 : decode cX5_fitting 9 = .ok (.iload 7, 2) := by decide +kernel
theorem dX5_fitting_11 : decode cX5_fitting 11 = .ok (.bipush 99, 2) := by decide +kernel
theorem dX5_fitting_13 : decode cX5_fitting 13 = .ok (.if_icmp .gt 52, 3) := by decide +kernel
theorem dX5_fitting_16 : decode cX5_fitting 16 = .ok (.aload_n 0, 1) := by decide +kernel
theorem dX5_fitting_17 : decode cX5_fitting 17 = .ok (.getfield 51, 3) := by decide +kernel
theorem dX5_fitting_20 : decode cX5_fitting 20 = .ok (.aload_n 0, 1) := by decide +kernel
theorem dX5_fitting_21 : decode cX5_fitting 21 = .ok (.getfield 44, 3) := by decide +kernel
theorem dX5_fitting_24 : decode cX5_fitting 24 = .ok (.invokevirtual 184, 3) := by decide +kernel
theorem dX5_fitting_27 : decode cX5_fitting 27 = .ok (.aload_n 2, 1) := by decide +kernel
theorem dX5_fitting_28 : decode cX5_fitting 28 = .ok (.iload_n 3, 1) := by decide +kernel
theorem dX5_fitting_29 : decode cX5_fitting 29 = .ok (.iload 7, 2) := by decide +kernel
theorem dX5_fitting_31 : decode cX5_fitting 31 = .ok (.iastore, 1) := by decide +kernel
theorem dX5_fitting_32 : decode cX5_fitting 32 = .ok (.aload_n 0, 1) := by decide +kernel
theorem dX5_fitting_33 : decode cX5_fitting 33 = .ok (.iload_n 1, 1) := by decide +kernel
theorem dX5_fitting_34 : decode cX5_fitting 34 = .ok (.invokevirtual 233, 3) := by decide +kernel
theorem dX5_fitting_37 : decode cX5_fitting 37 = .ok (.iconst (-1), 1) := by decide +kernel
theorem dX5_fitting_38 : decode cX5_fitting 38 = .ok (.if_icmp .ne 21, 3) := by decide +kernel
theorem dX5_fitting_41 : decode cX5_fitting 41 = .ok (.iinc 5 1, 3) := by decide +kernel
theorem dX5_fitting_44 : decode cX5_fitting 44 = .ok (.iload 6, 2) := by decide +kernel
theorem dX5_fitting_46 : decode cX5_fitting 46 = .ok (.iconst (-1), 1) := by decide +kernel
theorem dX5_fitting_47 : decode cX5_fitting 47 = .ok (.if_icmp .ne 8, 3) := by decide +kernel
theorem dX5_fitting_50 : decode cX5_fitting 50 = .ok (.iload 7, 2) := by decide +kernel
theorem dX5_fitting_52 : decode cX5_fitting 52 = .ok (.goto 5, 3) := by decide +kernel
theorem dX5_fitting_55 : decode cX5_fitting 55 = .ok (.iload 6, 2) := by decide +kernel
theorem dX5_fitting_57 : decode cX5_fitting 57 = .ok (.istore 6, 2) := by decide +kernel
theorem dX5_fitting_59 : decode cX5_fitting 59 = .ok (.iinc 7 1, 3) := by decide +kernel
theorem dX5_fitting_62 : decode cX5_fitting 62 = .ok (.goto (-53), 3) := by decide +kernel
theorem dX5_fitting_65 : decode cX5_fitting 65 = .ok (.iload 4, 2) := by decide +kernel
theorem dX5_fitting_67 : decode cX5_fitting 67 = .ok (.ifCond .ne 8, 3) := by decide +kernel
theorem dX5_fitting_70 : decode cX5_fitting 70 = .ok (.iload 5, 2) := by decide +kernel
theorem dX5_fitting_72 : decode cX5_fitting 72 = .ok (.goto 5, 3) := by decide +kernel
theorem dX5_fitting_75 : decode cX5_fitting 75 = .ok (.iload 6, 2) := by decide +kernel
theorem dX5_fitting_77 : decode cX5_fitting 77 = .ok (.ireturn, 1) := by decide +kernel
set_option maxRecDepth 20000 in
theorem ggX5_drawn_X5_isBelow : GoodIn wsX5_drawn wsX5_isBelow := goodIn_r _ [6] rfl (by decide +kernel)
set_option maxRecDepth 20000 in
theorem gX5_drawn_X5_isBelow : GoodIn wsX5_drawn (va_wsS RX5 100 yX5_isBelow wsX5_isBelow) := goodIn_app (goodIn_of _ (by decide +kernel)) ggX5_drawn_X5_isBelow
set_option maxRecDepth 20000 in
theorem ggX5_drawn_X5_holdAssizes : GoodIn wsX5_drawn wsX5_holdAssizes := goodIn_r _ [10, 2, 11, 12, 13, 14, 15, 16, 17, 18, 19, 20, 21, 22, 23, 24, 25, 26, 27, 28, 29, 30, 31, 32, 33, 34, 35, 36, 37, 38, 39, 40, 41, 4, 5, 6, 42, 43, 44, 45, 46, 47, 48, 49, 50, 51, 52, 53, 54, 55, 56, 57, 58, 59, 60, 61, 62, 63, 64, 65, 66, 67, 68, 69, 70, 71, 72, 73, 74, 75, 76, 77, 78, 79, 80, 81, 82, 83, 84, 85, 86, 87, 88, 89, 90, 91, 92, 93, 94, 95, 96, 97, 98, 99, 100, 101, 102, 103, 104, 105, 106, 107, 108, 109, 110, 111, 112, 113, 114, 115, 116, 117, 118, 119, 120, 121, 122, 123, 124, 125, 126, 135, 136, 137, 138, 139, 140, 141, 142, 143, 144, 145, 146, 147, 148, 149, 150, 151, 152, 153, 154, 155, 156, 157, 158, 159, 160, 161, 162, 163, 164] rfl (by decide +kernel)
set_option maxRecDepth 20000 in
theorem gX5_drawn_X5_holdAssizes : GoodIn wsX5_drawn (wsV RX5 259 RX5 yX5_holdAssizes wsX5_holdAssizes) := goodIn_app (goodIn_of _ (by decide +kernel)) ggX5_drawn_X5_holdAssizes
set_option maxRecDepth 20000 in
theorem ggX5_drawn_X0_verdict : GoodIn wsX5_drawn wsX0_verdict := goodIn_r _ [130, 34, 131, 132, 133, 18, 134, 20, 146, 147, 148, 149, 150, 151, 152, 153, 154, 155, 156, 157, 158, 159, 160] rfl (by decide +kernel)
set_option maxRecDepth 20000 in
theorem gX5_drawn_X0_verdict : GoodIn wsX5_drawn (wsV RX5 97 RX0 yX0_verdict wsX0_verdict) := goodIn_app (goodIn_of _ (by decide +kernel)) ggX5_drawn_X0_verdict
theorem dX5_drawn_0 : decode cX5_drawn 0 = .ok (.iload_n 1, 1) := by decide +kernel
theorem dX5_drawn_1 : decode cX5_drawn 1 = .ok (.ldc_w 258, 3) := by decide +kernel
theorem dX5_drawn_4 : decode cX5_drawn 4 = .ok (.invokestatic 100, 3) := by decide +kernel
theorem dX5_drawn_7 : decode cX5_drawn 7 = .ok (.ifCond .eq 11, 3) := by decide +kernel
theorem dX5_drawn_10 : decode cX5_drawn 10 = .ok (.iload_n 2, 1) := by decide +kernel
theorem dX5_drawn_11 : decode cX5_drawn 11 = .ok (.iconst 2, 1) := by decide +kernel
theorem dX5_drawn_12 : decode cX5_drawn 12 = .ok (.invokestatic 100, 3) := by decide +kernel
theorem dX5_drawn_15 : decode cX5_drawn 15 = .ok (.ifCond .ne 7, 3) := by decide +kernel
theorem dX5_drawn_18 : decode cX5_drawn 18 = .ok (.sipush (-5000), 3) := by decide +kernel
theorem dX5_drawn_21 : decode cX5_drawn 21 = .ok (.ireturn, 1) := by decide +kernel
theorem dX5_drawn_22 : decode cX5_drawn 22 = .ok (.aload_n 0, 1) := by decide +kernel
theorem dX5_drawn_23 : decode cX5_drawn 23 = .ok (.iload_n 1, 1) := by decide +kernel
theorem dX5_drawn_24 : decode cX5_drawn 24 = .ok (.invokevirtual 259, 3) := by decide +kernel
theorem dX5_drawn_27 : decode cX5_drawn 27 = .ok (.iload_n 2, 1) := by decide +kernel
theorem dX5_drawn_28 : decode cX5_drawn 28 = .ok (.ifCond .ne 13, 3) := by decide +kernel
theorem dX5_drawn_31 : decode cX5_drawn 31 = .ok (.aload_n 0, 1) := by decide +kernel
theorem dX5_drawn_32 : decode cX5_drawn 32 = .ok (.getfield 51, 3) := by decide +kernel
theorem dX5_drawn_35 : decode cX5_drawn 35 = .ok (.invokevirtual 97, 3) := by decide +kernel
theorem dX5_drawn_38 : decode cX5_drawn 38 = .ok (.goto 10, 3) := by decide +kernel
theorem dX5_drawn_41 : decode cX5_drawn 41 = .ok (.aload_n 0, 1) := by decide +kernel
theorem dX5_drawn_42 : decode cX5_drawn 42 = .ok (.getfield 51, 3) := by decide +kernel
theorem dX5_drawn_45 : decode cX5_drawn 45 = .ok (.getfield 94, 3) := by decide +kernel
theorem dX5_drawn_48 : decode cX5_drawn 48 = .ok (.ireturn, 1) := by decide +kernel
set_option maxRecDepth 20000 in
theorem ggX5_odds_X5_isBelow : GoodIn wsX5_odds wsX5_isBelow := goodIn_r _ [7] rfl (by decide +kernel)
set_option maxRecDepth 20000 in
theorem gX5_odds_X5_isBelow : GoodIn wsX5_odds (va_wsS RX5 100 yX5_isBelow wsX5_isBelow) := goodIn_app (goodIn_of _ (by decide +kernel)) ggX5_odds_X5_isBelow
set_option maxRecDepth 20000 in
theorem ggX5_odds_X5_holdAssizes : GoodIn wsX5_odds wsX5_holdAssizes := goodIn_r _ [11, 3, 12, 13, 14, 15, 16, 17, 18, 19, 20, 21, 22, 23, 24, 25, 26, 27, 28, 29, 30, 31, 32, 33, 34, 35, 36, 37, 38, 39, 40, 41, 42, 5, 6, 7, 43, 44, 45, 46, 47, 48, 49, 50, 51, 52, 53, 54, 55, 56, 57, 58, 59, 60, 61, 62, 63, 64, 65, 66, 67, 68, 69, 70, 71, 72, 73, 74, 75, 76, 77, 78, 79, 80, 81, 82, 83, 84, 85, 86, 87, 88, 89, 90, 91, 92, 93, 94, 95, 96, 97, 98, 99, 100, 101, 102, 103, 104, 105, 106, 107, 108, 109, 110, 111, 112, 113, 114, 115, 116, 117, 118, 119, 120, 121, 122, 123, 124, 125, 126, 127, 145, 146, 147, 148, 149, 150, 151, 152, 153, 154, 155, 156, 157, 158, 159, 160, 161, 162, 163, 164, 165, 166, 167, 168, 169, 170, 171, 172, 173, 174] rfl (by decide +kernel)
set_option maxRecDepth 20000 in
theorem gX5_odds_X5_holdAssizes : GoodIn wsX5_odds (wsV RX5 259 RX5 yX5_holdAssizes wsX5_holdAssizes) := goodIn_app (goodIn_of _ (by decide +kernel)) ggX5_odds_X5_holdAssizes
set_option maxRecDepth 20000 in
theorem ggX5_odds_X0_verdict : GoodIn wsX5_odds wsX0_verdict := goodIn_r _ [131, 35, 132, 133, 134, 19, 135, 21, 156, 157, 158, 159, 160, 161, 162, 163, 164, 165, 166, 167, 168, 169, 170] rfl (by decide +kernel)
set_option maxRecDepth 20000 in
theorem gX5_odds_X0_verdict : GoodIn wsX5_odds (wsV RX5 97 RX0 yX0_verdict wsX0_verdict) := goodIn_app (goodIn_of _ (by decide +kernel)) ggX5_odds_X0_verdict
set_option maxRecDepth 20000 in
theorem ggX5_odds_X5_lowest : GoodIn wsX5_odds wsX5_lowest := goodIn_r _ [138, 139, 140, 88, 141, 2, 142, 143, 6, 144, 4, 5, 7] rfl (by decide +kernel)
set_option maxRecDepth 20000 in
theorem gX5_odds_X5_lowest : GoodIn wsX5_odds (va_wsS RX5 220 yX5_lowest wsX5_lowest) := goodIn_app (goodIn_of _ (by decide +kernel)) ggX5_odds_X5_lowest
theorem dX5_odds_0 : decode cX5_odds 0 = .ok (.iload_n 1, 1) := by decide +kernel
theorem dX5_odds_1 : decode cX5_odds 1 = .ok (.ldc_w 258, 3) := by decide +kernel
theorem dX5_odds_4 : decode cX5_odds 4 = .ok (.invokestatic 100, 3) := by decide +kernel
theorem dX5_odds_7 : decode cX5_odds 7 = .ok (.ifCond .eq 18, 3) := by decide +kernel
theorem dX5_odds_10 : decode cX5_odds 10 = .ok (.iload_n 2, 1) := by decide +kernel
theorem dX5_odds_11 : decode cX5_odds 11 = .ok (.iconst 1, 1) := by decide +kernel
theorem dX5_odds_12 : decode cX5_odds 12 = .ok (.if_icmp .lt 13, 3) := by decide +kernel
theorem dX5_odds_15 : decode cX5_odds 15 = .ok (.iload_n 2, 1) := by decide +kernel
theorem dX5_odds_16 : decode cX5_odds 16 = .ok (.bipush 40, 2) := by decide +kernel
theorem dX5_odds_18 : decode cX5_odds 18 = .ok (.if_icmp .gt 7, 3) := by decide +kernel
theorem dX5_odds_21 : decode cX5_odds 21 = .ok (.iconst 1, 1) := by decide +kernel
theorem dX5_odds_22 : decode cX5_odds 22 = .ok (.goto 4, 3) := by decide +kernel
theorem dX5_odds_25 : decode cX5_odds 25 = .ok (.iconst 0, 1) := by decide +kernel
theorem dX5_odds_26 : decode cX5_odds 26 = .ok (.istore 5, 2) := by decide +kernel
theorem dX5_odds_28 : decode cX5_odds 28 = .ok (.iload 5, 2) := by decide +kernel
theorem dX5_odds_30 : decode cX5_odds 30 = .ok (.ifCond .eq 17, 3) := by decide +kernel
theorem dX5_odds_33 : decode cX5_odds 33 = .ok (.iload_n 3, 1) := by decide +kernel
theorem dX5_odds_34 : decode cX5_odds 34 = .ok (.sipush (-999), 3) := by decide +kernel
theorem dX5_odds_37 : decode cX5_odds 37 = .ok (.if_icmp .lt 10, 3) := by decide +kernel
theorem dX5_odds_40 : decode cX5_odds 40 = .ok (.iload_n 3, 1) := by decide +kernel
theorem dX5_odds_41 : decode cX5_odds 41 = .ok (.sipush 999, 3) := by decide +kernel
theorem dX5_odds_44 : decode cX5_odds 44 = .ok (.if_icmp .le 7, 3) := by decide +kernel
theorem dX5_odds_47 : decode cX5_odds 47 = .ok (.ldc2_w 218, 3) := by decide +kernel
theorem dX5_odds_50 : decode cX5_odds 50 = .ok (.lreturn, 1) := by decide +kernel
theorem dX5_odds_51 : decode cX5_odds 51 = .ok (.iconst 0, 1) := by decide +kernel
theorem dX5_odds_52 : decode cX5_odds 52 = .ok (.istore 6, 2) := by decide +kernel
theorem dX5_odds_54 : decode cX5_odds 54 = .ok (.iconst 0, 1) := by decide +kernel
theorem dX5_odds_55 : decode cX5_odds 55 = .ok (.istore 7, 2) := by decide +kernel
theorem dX5_odds_57 : decode cX5_odds 57 = .ok (.iload 7, 2) := by decide +kernel
theorem dX5_odds_59 : decode cX5_odds 59 = .ok (.iload_n 2, 1) := by decide +kernel
theorem dX5_odds_60 : decode cX5_odds 60 = .ok (.if_icmp .ge 38, 3) := by decide +kernel
theorem dX5_odds_63 : decode cX5_odds 63 = .ok (.aload_n 0, 1) := by decide +kernel
theorem dX5_odds_64 : decode cX5_odds 64 = .ok (.iload_n 1, 1) := by decide +kernel
theorem dX5_odds_65 : decode cX5_odds 65 = .ok (.iload 7, 2) := by decide +kernel
theorem dX5_odds_67 : decode cX5_odds 67 = .ok (.iadd, 1) := by decide +kernel
theorem dX5_odds_68 : decode cX5_odds 68 = .ok (.invokevirtual 259, 3) := by decide +kernel
theorem dX5_odds_71 : decode cX5_odds 71 = .ok (.iload 6, 2) := by decide +kernel
theorem dX5_odds_73 : decode cX5_odds 73 = .ok (.aload_n 0, 1) := by decide +kernel
theorem dX5_odds_74 : decode cX5_odds 74 = .ok (.getfield 51, 3) := by decide +kernel
theorem dX5_odds_77 : decode cX5_odds 77 = .ok (.invokevirtual 97, 3) := by decide +kernel
theorem dX5_odds_80 : decode cX5_odds 80 = .ok (.iload_n 3, 1) := by decide +kernel
theorem dX5_odds_81 : decode cX5_odds 81 = .ok (.if_icmp .lt 7, 3) := by decide +kernel
theorem dX5_odds_84 : decode cX5_odds 84 = .ok (.iconst 1, 1) := by decide +kernel
theorem dX5_odds_85 : decode cX5_odds 85 = .ok (.goto 4, 3) := by decide +kernel
theorem dX5_odds_88 : decode cX5_odds 88 = .ok (.iconst 0, 1) := by decide +kernel
theorem dX5_odds_89 : decode cX5_odds 89 = .ok (.iadd, 1) := by decide +kernel
theorem dX5_odds_90 : decode cX5_odds 90 = .ok (.istore 6, 2) := by decide +kernel
theorem dX5_odds_92 : decode cX5_odds 92 = .ok (.iinc 7 1, 3) := by decide +kernel
theorem dX5_odds_95 : decode cX5_odds 95 = .ok (.goto (-38), 3) := by decide +kernel
theorem dX5_odds_98 : decode cX5_odds 98 = .ok (.iload 6, 2) := by decide +kernel
theorem dX5_odds_100 : decode cX5_odds 100 = .ok (.iload_n 2, 1) := by decide +kernel
theorem dX5_odds_101 : decode cX5_odds 101 = .ok (.iload 4, 2) := by decide +kernel
theorem dX5_odds_103 : decode cX5_odds 103 = .ok (.invokestatic 220, 3) := by decide +kernel
theorem dX5_odds_106 : decode cX5_odds 106 = .ok (.lreturn, 1) := by decide +kernel
set_option maxRecDepth 20000 in
theorem ggX5_holdAssizes_X0_become : GoodIn wsX5_holdAssizes wsX0_become := goodIn_r _ [10, 11, 12, 13, 14, 15, 16, 17, 18, 19, 20, 21, 22, 23, 24, 25, 26, 27, 28, 132, 133, 134, 135, 136, 137, 138, 139, 140, 141, 142, 143, 144, 145, 146] rfl (by decide +kernel)
set_option maxRecDepth 20000 in
theorem gX5_holdAssizes_X0_become : GoodIn wsX5_holdAssizes (wsV RX5 184 RX0 yX0_become wsX0_become) := goodIn_app (goodIn_of _ (by decide +kernel)) ggX5_holdAssizes_X0_become
set_option maxRecDepth 20000 in
theorem ggX5_holdAssizes_X0_hasWitness : GoodIn wsX5_holdAssizes wsX0_hasWitness := goodIn_r _ [32, 27, 33, 34, 35, 132, 133, 134, 135, 136, 137, 138, 139, 140, 141, 142, 143, 144, 145, 146] rfl (by decide +kernel)
set_option maxRecDepth 20000 in
theorem gX5_holdAssizes_X0_hasWitness : GoodIn wsX5_holdAssizes (wsV RX5 118 RX0 yX0_hasWitness wsX0_hasWitness) := goodIn_app (goodIn_of _ (by decide +kernel)) ggX5_holdAssizes_X0_hasWitness
set_option maxRecDepth 20000 in
theorem ggX5_holdAssizes_X0_canLetFall : GoodIn wsX5_holdAssizes wsX0_canLetFall := goodIn_r _ [39, 19, 40, 41, 42, 9, 43, 22, 132, 133, 134, 135, 136, 137, 138, 139, 140, 141, 142, 143, 144, 145, 146] rfl (by decide +kernel)
set_option maxRecDepth 20000 in
theorem gX5_holdAssizes_X0_canLetFall : GoodIn wsX5_holdAssizes (wsV RX5 175 RX0 yX0_canLetFall wsX0_canLetFall) := goodIn_app (goodIn_of _ (by decide +kernel)) ggX5_holdAssizes_X0_canLetFall
set_option maxRecDepth 20000 in
theorem ggX5_holdAssizes_X0_letFall : GoodIn wsX5_holdAssizes wsX0_letFall := goodIn_r _ [47, 22, 23, 24, 48, 49, 50, 9, 51, 19, 17, 28, 18, 52, 53, 54, 55, 56, 57, 58, 59, 60, 61, 62, 63, 64, 65, 66, 67, 68, 69, 70, 20, 26, 25, 40, 41, 42, 43, 71, 72, 73, 74, 75, 76, 77, 34, 78, 79, 80, 81, 82, 83, 84, 85, 86, 87, 88, 89, 90, 91, 92, 93, 94, 95, 96, 97, 98, 99, 100, 101, 132, 133, 134, 135, 136, 137, 138, 139, 140, 141, 142, 143, 144, 145, 146, 147, 148, 149, 150] rfl (by decide +kernel)
set_option maxRecDepth 20000 in
theorem gX5_holdAssizes_X0_letFall : GoodIn wsX5_holdAssizes (wsV RX5 178 RX0 yX0_letFall wsX0_letFall) := goodIn_app (goodIn_of _ (by decide +kernel)) ggX5_holdAssizes_X0_letFall
set_option maxRecDepth 20000 in
theorem ggX5_holdAssizes_X0_passHours : GoodIn wsX5_holdAssizes wsX0_passHours := goodIn_r _ [105, 26, 22, 16, 23, 25, 106, 107, 108, 9, 109, 28, 17, 18, 59, 60, 61, 62, 63, 64, 65, 66, 67, 68, 69, 70, 20, 19, 52, 53, 54, 55, 56, 57, 58, 40, 41, 42, 43, 71, 72, 73, 74, 75, 76, 77, 34, 78, 79, 80, 81, 82, 83, 84, 85, 110, 111, 88, 112, 113, 114, 115, 116, 117, 118, 119, 24, 21, 120, 132, 133, 134, 135, 136, 137, 138, 139, 140, 141, 142, 143, 144, 145, 146, 147, 148, 149, 150] rfl (by decide +kernel)
set_option maxRecDepth 20000 in
theorem gX5_holdAssizes_X0_passHours : GoodIn wsX5_holdAssizes (wsV RX5 181 RX0 yX0_passHours wsX0_passHours) := goodIn_app (goodIn_of _ (by decide +kernel)) ggX5_holdAssizes_X0_passHours
theorem dX5_holdAssizes_0 : decode cX5_holdAssizes 0 = .ok (.aload_n 0, 1) := by decide +kernel
theorem dX5_holdAssizes_1 : decode cX5_holdAssizes 1 = .ok (.getfield 51, 3) := by decide +kernel
theorem dX5_holdAssizes_4 : decode cX5_holdAssizes 4 = .ok (.aload_n 0, 1) := by decide +kernel
theorem dX5_holdAssizes_5 : decode cX5_holdAssizes 5 = .ok (.getfield 44, 3) := by decide +kernel
theorem dX5_holdAssizes_8 : decode cX5_holdAssizes 8 = .ok (.invokevirtual 184, 3) := by decide +kernel
theorem dX5_holdAssizes_11 : decode cX5_holdAssizes 11 = .ok (.iload_n 1, 1) := by decide +kernel
theorem dX5_holdAssizes_12 : decode cX5_holdAssizes 12 = .ok (.i2l, 1) := by decide +kernel
theorem dX5_holdAssizes_13 : decode cX5_holdAssizes 13 = .ok (.lconst 1, 1) := by decide +kernel
theorem dX5_holdAssizes_14 : decode cX5_holdAssizes 14 = .ok (.ladd, 1) := by decide +kernel
theorem dX5_holdAssizes_15 : decode cX5_holdAssizes 15 = .ok (.lstore_n 2, 1) := by decide +kernel
theorem dX5_holdAssizes_16 : decode cX5_holdAssizes 16 = .ok (.iconst 0, 1) := by decide +kernel
theorem dX5_holdAssizes_17 : decode cX5_holdAssizes 17 = .ok (.istore 4, 2) := by decide +kernel
theorem dX5_holdAssizes_19 : decode cX5_holdAssizes 19 = .ok (.iload 4, 2) := by decide +kernel
theorem dX5_holdAssizes_21 : decode cX5_holdAssizes 21 = .ok (.bipush 10, 2) := by decide +kernel
theorem dX5_holdAssizes_23 : decode cX5_holdAssizes 23 = .ok (.if_icmp .ge 70, 3) := by decide +kernel
theorem dX5_holdAssizes_26 : decode cX5_holdAssizes 26 = .ok (.lload_n 2, 1) := by decide +kernel
theorem dX5_holdAssizes_27 : decode cX5_holdAssizes 27 = .ok (.ldc2_w 262, 3) := by decide +kernel
theorem dX5_holdAssizes_30 : decode cX5_holdAssizes 30 = .ok (.lmul, 1) := by decide +kernel
theorem dX5_holdAssizes_31 : decode cX5_holdAssizes 31 = .ok (.ldc2_w 264, 3) := by decide +kernel
theorem dX5_holdAssizes_34 : decode cX5_holdAssizes 34 = .ok (.lrem, 1) := by decide +kernel
theorem dX5_holdAssizes_35 : decode cX5_holdAssizes 35 = .ok (.lstore_n 2, 1) := by decide +kernel
theorem dX5_holdAssizes_36 : decode cX5_holdAssizes 36 = .ok (.lload_n 2, 1) := by decide +kernel
theorem dX5_holdAssizes_37 : decode cX5_holdAssizes 37 = .ok (.ldc2_w 266, 3) := by decide +kernel
theorem dX5_holdAssizes_40 : decode cX5_holdAssizes 40 = .ok (.lrem, 1) := by decide +kernel
theorem dX5_holdAssizes_41 : decode cX5_holdAssizes 41 = .ok (.l2i, 1) := by decide +kernel
theorem dX5_holdAssizes_42 : decode cX5_holdAssizes 42 = .ok (.istore 5, 2) := by decide +kernel
theorem dX5_holdAssizes_44 : decode cX5_holdAssizes 44 = .ok (.aload_n 0, 1) := by decide +kernel
theorem dX5_holdAssizes_45 : decode cX5_holdAssizes 45 = .ok (.getfield 51, 3) := by decide +kernel
theorem dX5_holdAssizes_48 : decode cX5_holdAssizes 48 = .ok (.iload 5, 2) := by decide +kernel
theorem dX5_holdAssizes_50 : decode cX5_holdAssizes 50 = .ok (.invokevirtual 118, 3) := by decide +kernel
theorem dX5_holdAssizes_53 : decode cX5_holdAssizes 53 = .ok (.ifCond .eq 25, 3) := by decide +kernel
theorem dX5_holdAssizes_56 : decode cX5_holdAssizes 56 = .ok (.aload_n 0, 1) := by decide +kernel
theorem dX5_holdAssizes_57 : decode cX5_holdAssizes 57 = .ok (.getfield 51, 3) := by decide +kernel
theorem dX5_holdAssizes_60 : decode cX5_holdAssizes 60 = .ok (.iload 5, 2) := by decide +kernel
theorem dX5_holdAssizes_62 : decode cX5_holdAssizes 62 = .ok (.invokevirtual 175, 3) := by decide +kernel
theorem dX5_holdAssizes_65 : decode cX5_holdAssizes 65 = .ok (.ifCond .eq 13, 3) := by decide +kernel
theorem dX5_holdAssizes_68 : decode cX5_holdAssizes 68 = .ok (.aload_n 0, 1) := by decide +kernel
theorem dX5_holdAssizes_69 : decode cX5_holdAssizes 69 = .ok (.getfield 51, 3) := by decide +kernel
theorem dX5_holdAssizes_72 : decode cX5_holdAssizes 72 = .ok (.iload 5, 2) := by decide +kernel
theorem dX5_holdAssizes_74 : decode cX5_holdAssizes 74 = .ok (.invokevirtual 178, 3) := by decide +kernel
theorem dX5_holdAssizes_77 : decode cX5_holdAssizes 77 = .ok (.pop, 1) := by decide +kernel
theorem dX5_holdAssizes_78 : decode cX5_holdAssizes 78 = .ok (.aload_n 0, 1) := by decide +kernel
theorem dX5_holdAssizes_79 : decode cX5_holdAssizes 79 = .ok (.getfield 51, 3) := by decide +kernel
theorem dX5_holdAssizes_82 : decode cX5_holdAssizes 82 = .ok (.iconst 1, 1) := by decide +kernel
theorem dX5_holdAssizes_83 : decode cX5_holdAssizes 83 = .ok (.invokevirtual 181, 3) := by decide +kernel
theorem dX5_holdAssizes_86 : decode cX5_holdAssizes 86 = .ok (.pop, 1) := by decide +kernel
theorem dX5_holdAssizes_87 : decode cX5_holdAssizes 87 = .ok (.iinc 4 1, 3) := by decide +kernel
theorem dX5_holdAssizes_90 : decode cX5_holdAssizes 90 = .ok (.goto (-71), 3) := by decide +kernel
theorem dX5_holdAssizes_93 : decode cX5_holdAssizes 93 = .ok (.return_, 1) := by decide +kernel
set_option maxRecDepth 20000 in
theorem ggX5_image_X0_become : GoodIn wsX5_image wsX0_become := goodIn_r _ [8, 9, 10, 11, 12, 13, 14, 15, 16, 17, 18, 19, 20, 21, 22, 23, 24, 25, 26, 38, 39, 40, 41, 42, 43, 44, 45, 46, 47, 48, 49, 50, 51, 52] rfl (by decide +kernel)
set_option maxRecDepth 20000 in
theorem gX5_image_X0_become : GoodIn wsX5_image (wsV RX5 184 RX0 yX0_become wsX0_become) := goodIn_app (goodIn_of _ (by decide +kernel)) ggX5_image_X0_become
theorem dX5_image_0 : decode cX5_image 0 = .ok (.aload_n 0, 1) := by decide +kernel
theorem dX5_image_1 : decode cX5_image 1 = .ok (.getfield 48, 3) := by decide +kernel
theorem dX5_image_4 : decode cX5_image 4 = .ok (.aload_n 0, 1) := by decide +kernel
theorem dX5_image_5 : decode cX5_image 5 = .ok (.getfield 44, 3) := by decide +kernel
theorem dX5_image_8 : decode cX5_image 8 = .ok (.invokevirtual 184, 3) := by decide +kernel
theorem dX5_image_11 : decode cX5_image 11 = .ok (.aload_n 0, 1) := by decide +kernel
theorem dX5_image_12 : decode cX5_image 12 = .ok (.iconst 1, 1) := by decide +kernel
theorem dX5_image_13 : decode cX5_image 13 = .ok (.putfield 268, 3) := by decide +kernel
theorem dX5_image_16 : decode cX5_image 16 = .ok (.aload_n 0, 1) := by decide +kernel
theorem dX5_image_17 : decode cX5_image 17 = .ok (.getfield 44, 3) := by decide +kernel
theorem dX5_image_20 : decode cX5_image 20 = .ok (.getfield 55, 3) := by decide +kernel
theorem dX5_image_23 : decode cX5_image 23 = .ok (.ireturn, 1) := by decide +kernel
set_option maxRecDepth 20000 in
theorem ggX5_back_X0_become : GoodIn wsX5_back wsX0_become := goodIn_r _ [8, 9, 10, 11, 12, 13, 14, 15, 16, 17, 18, 19, 20, 21, 22, 23, 24, 25, 26, 38, 39, 40, 41, 42, 43, 44, 45, 46, 47, 48, 49, 50, 51, 52] rfl (by decide +kernel)
set_option maxRecDepth 20000 in
theorem gX5_back_X0_become : GoodIn wsX5_back (wsV RX5 184 RX0 yX0_become wsX0_become) := goodIn_app (goodIn_of _ (by decide +kernel)) ggX5_back_X0_become
theorem dX5_back_0 : decode cX5_back 0 = .ok (.aload_n 0, 1) := by decide +kernel
theorem dX5_back_1 : decode cX5_back 1 = .ok (.getfield 268, 3) := by decide +kernel
theorem dX5_back_4 : decode cX5_back 4 = .ok (.ifCond .ne 6, 3) := by decide +kernel
theorem dX5_back_7 : decode cX5_back 7 = .ok (.bipush (-3), 2) := by decide +kernel
theorem dX5_back_9 : decode cX5_back 9 = .ok (.ireturn, 1) := by decide +kernel
theorem dX5_back_10 : decode cX5_back 10 = .ok (.aload_n 0, 1) := by decide +kernel
theorem dX5_back_11 : decode cX5_back 11 = .ok (.getfield 44, 3) := by decide +kernel
theorem dX5_back_14 : decode cX5_back 14 = .ok (.aload_n 0, 1) := by decide +kernel
theorem dX5_back_15 : decode cX5_back 15 = .ok (.getfield 48, 3) := by decide +kernel
theorem dX5_back_18 : decode cX5_back 18 = .ok (.invokevirtual 184, 3) := by decide +kernel
theorem dX5_back_21 : decode cX5_back 21 = .ok (.aload_n 0, 1) := by decide +kernel
theorem dX5_back_22 : decode cX5_back 22 = .ok (.getfield 44, 3) := by decide +kernel
theorem dX5_back_25 : decode cX5_back 25 = .ok (.getfield 55, 3) := by decide +kernel
theorem dX5_back_28 : decode cX5_back 28 = .ok (.ireturn, 1) := by decide +kernel
set_option maxRecDepth 20000 in
theorem ggX5_sheet_X5_isBelow : GoodIn wsX5_sheet wsX5_isBelow := goodIn_r _ [5] rfl (by decide +kernel)
set_option maxRecDepth 20000 in
theorem gX5_sheet_X5_isBelow : GoodIn wsX5_sheet (va_wsS RX5 100 yX5_isBelow wsX5_isBelow) := goodIn_app (goodIn_of _ (by decide +kernel)) ggX5_sheet_X5_isBelow
set_option maxRecDepth 20000 in
theorem ggX5_sheet_X3_begin : GoodIn wsX5_sheet wsX3_begin := goodIn_r _ [10, 11, 12, 13, 14, 15, 16, 17, 29, 30, 31] rfl (by decide +kernel)
set_option maxRecDepth 20000 in
theorem gX5_sheet_X3_begin : GoodIn wsX5_sheet (wsV RX5 244 RX3 yX3_begin wsX3_begin) := goodIn_app (goodIn_of _ (by decide +kernel)) ggX5_sheet_X3_begin
theorem dX5_sheet_0 : decode cX5_sheet 0 = .ok (.iload_n 1, 1) := by decide +kernel
theorem dX5_sheet_1 : decode cX5_sheet 1 = .ok (.iconst 4, 1) := by decide +kernel
theorem dX5_sheet_2 : decode cX5_sheet 2 = .ok (.invokestatic 100, 3) := by decide +kernel
theorem dX5_sheet_5 : decode cX5_sheet 5 = .ok (.ifCond .eq 13, 3) := by decide +kernel
theorem dX5_sheet_8 : decode cX5_sheet 8 = .ok (.iload_n 2, 1) := by decide +kernel
theorem dX5_sheet_9 : decode cX5_sheet 9 = .ok (.iconst (-1), 1) := by decide +kernel
theorem dX5_sheet_10 : decode cX5_sheet 10 = .ok (.if_icmp .lt 8, 3) := by decide +kernel
theorem dX5_sheet_13 : decode cX5_sheet 13 = .ok (.iload_n 2, 1) := by decide +kernel
theorem dX5_sheet_14 : decode cX5_sheet 14 = .ok (.iconst 2, 1) := by decide +kernel
theorem dX5_sheet_15 : decode cX5_sheet 15 = .ok (.if_icmp .le 6, 3) := by decide +kernel
theorem dX5_sheet_18 : decode cX5_sheet 18 = .ok (.bipush (-2), 2) := by decide +kernel
theorem dX5_sheet_20 : decode cX5_sheet 20 = .ok (.ireturn, 1) := by decide +kernel
theorem dX5_sheet_21 : decode cX5_sheet 21 = .ok (.iload_n 2, 1) := by decide +kernel
theorem dX5_sheet_22 : decode cX5_sheet 22 = .ok (.iconst (-1), 1) := by decide +kernel
theorem dX5_sheet_23 : decode cX5_sheet 23 = .ok (.if_icmp .eq 12, 3) := by decide +kernel
theorem dX5_sheet_26 : decode cX5_sheet 26 = .ok (.iload_n 3, 1) := by decide +kernel
theorem dX5_sheet_27 : decode cX5_sheet 27 = .ok (.bipush 40, 2) := by decide +kernel
theorem dX5_sheet_29 : decode cX5_sheet 29 = .ok (.if_icmp .le 6, 3) := by decide +kernel
theorem dX5_sheet_32 : decode cX5_sheet 32 = .ok (.bipush (-2), 2) := by decide +kernel
theorem dX5_sheet_34 : decode cX5_sheet 34 = .ok (.ireturn, 1) := by decide +kernel
theorem dX5_sheet_35 : decode cX5_sheet 35 = .ok (.iload_n 2, 1) := by decide +kernel
theorem dX5_sheet_36 : decode cX5_sheet 36 = .ok (.iconst (-1), 1) := by decide +kernel
theorem dX5_sheet_37 : decode cX5_sheet 37 = .ok (.if_icmp .eq 10, 3) := by decide +kernel
theorem dX5_sheet_40 : decode cX5_sheet 40 = .ok (.iload_n 3, 1) := by decide +kernel
theorem dX5_sheet_41 : decode cX5_sheet 41 = .ok (.ifCond .ge 6, 3) := by decide +kernel
theorem dX5_sheet_44 : decode cX5_sheet 44 = .ok (.bipush (-14), 2) := by decide +kernel
theorem dX5_sheet_46 : decode cX5_sheet 46 = .ok (.ireturn, 1) := by decide +kernel
theorem dX5_sheet_47 : decode cX5_sheet 47 = .ok (.aload_n 0, 1) := by decide +kernel
theorem dX5_sheet_48 : decode cX5_sheet 48 = .ok (.getfield 24, 3) := by decide +kernel
theorem dX5_sheet_51 : decode cX5_sheet 51 = .ok (.iload_n 1, 1) := by decide +kernel
theorem dX5_sheet_52 : decode cX5_sheet 52 = .ok (.aaload, 1) := by decide +kernel
theorem dX5_sheet_53 : decode cX5_sheet 53 = .ok (.iload_n 2, 1) := by decide +kernel
theorem dX5_sheet_54 : decode cX5_sheet 54 = .ok (.iload_n 2, 1) := by decide +kernel
theorem dX5_sheet_55 : decode cX5_sheet 55 = .ok (.iconst (-1), 1) := by decide +kernel
theorem dX5_sheet_56 : decode cX5_sheet 56 = .ok (.if_icmp .ne 7, 3) := by decide +kernel
theorem dX5_sheet_59 : decode cX5_sheet 59 = .ok (.iconst 0, 1) := by decide +kernel
theorem dX5_sheet_60 : decode cX5_sheet 60 = .ok (.goto 4, 3) := by decide +kernel
theorem dX5_sheet_63 : decode cX5_sheet 63 = .ok (.iload_n 3, 1) := by decide +kernel
theorem dX5_sheet_64 : decode cX5_sheet 64 = .ok (.invokevirtual 244, 3) := by decide +kernel
theorem dX5_sheet_67 : decode cX5_sheet 67 = .ok (.iconst 1, 1) := by decide +kernel
theorem dX5_sheet_68 : decode cX5_sheet 68 = .ok (.ireturn, 1) := by decide +kernel
set_option maxRecDepth 20000 in
theorem ggX5_cell_X5_isBelow : GoodIn wsX5_cell wsX5_isBelow := goodIn_r _ [5] rfl (by decide +kernel)
set_option maxRecDepth 20000 in
theorem gX5_cell_X5_isBelow : GoodIn wsX5_cell (va_wsS RX5 100 yX5_isBelow wsX5_isBelow) := goodIn_app (goodIn_of _ (by decide +kernel)) ggX5_cell_X5_isBelow
set_option maxRecDepth 20000 in
theorem ggX5_cell_X3_isMissing : GoodIn wsX5_cell wsX3_isMissing := goodIn_r _ [10, 11, 28, 29, 30] rfl (by decide +kernel)
set_option maxRecDepth 20000 in
theorem gX5_cell_X3_isMissing : GoodIn wsX5_cell (wsV RX5 250 RX3 yX3_isMissing wsX3_isMissing) := goodIn_app (goodIn_of _ (by decide +kernel)) ggX5_cell_X3_isMissing
set_option maxRecDepth 20000 in
theorem ggX5_cell_X3_become : GoodIn wsX5_cell wsX3_become := goodIn_r _ [15, 16, 11, 28, 29, 30] rfl (by decide +kernel)
set_option maxRecDepth 20000 in
theorem gX5_cell_X3_become : GoodIn wsX5_cell (wsV RX5 248 RX3 yX3_become wsX3_become) := goodIn_app (goodIn_of _ (by decide +kernel)) ggX5_cell_X3_become
theorem dX5_cell_0 : decode cX5_cell 0 = .ok (.iload_n 1, 1) := by decide +kernel
theorem dX5_cell_1 : decode cX5_cell 1 = .ok (.iconst 4, 1) := by decide +kernel
theorem dX5_cell_2 : decode cX5_cell 2 = .ok (.invokestatic 100, 3) := by decide +kernel
theorem dX5_cell_5 : decode cX5_cell 5 = .ok (.ifCond .ne 6, 3) := by decide +kernel
theorem dX5_cell_8 : decode cX5_cell 8 = .ok (.bipush (-2), 2) := by decide +kernel
theorem dX5_cell_10 : decode cX5_cell 10 = .ok (.ireturn, 1) := by decide +kernel
theorem dX5_cell_11 : decode cX5_cell 11 = .ok (.aload_n 0, 1) := by decide +kernel
theorem dX5_cell_12 : decode cX5_cell 12 = .ok (.getfield 24, 3) := by decide +kernel
theorem dX5_cell_15 : decode cX5_cell 15 = .ok (.iload_n 1, 1) := by decide +kernel
theorem dX5_cell_16 : decode cX5_cell 16 = .ok (.aaload, 1) := by decide +kernel
theorem dX5_cell_17 : decode cX5_cell 17 = .ok (.invokevirtual 250, 3) := by decide +kernel
theorem dX5_cell_20 : decode cX5_cell 20 = .ok (.ifCond .eq 6, 3) := by decide +kernel
theorem dX5_cell_23 : decode cX5_cell 23 = .ok (.bipush (-11), 2) := by decide +kernel
theorem dX5_cell_25 : decode cX5_cell 25 = .ok (.ireturn, 1) := by decide +kernel
theorem dX5_cell_26 : decode cX5_cell 26 = .ok (.iload_n 2, 1) := by decide +kernel
theorem dX5_cell_27 : decode cX5_cell 27 = .ok (.aload_n 0, 1) := by decide +kernel
theorem dX5_cell_28 : decode cX5_cell 28 = .ok (.getfield 24, 3) := by decide +kernel
theorem dX5_cell_31 : decode cX5_cell 31 = .ok (.iload_n 1, 1) := by decide +kernel
theorem dX5_cell_32 : decode cX5_cell 32 = .ok (.aaload, 1) := by decide +kernel
theorem dX5_cell_33 : decode cX5_cell 33 = .ok (.getfield 254, 3) := by decide +kernel
theorem dX5_cell_36 : decode cX5_cell 36 = .ok (.invokestatic 100, 3) := by decide +kernel
theorem dX5_cell_39 : decode cX5_cell 39 = .ok (.ifCond .ne 6, 3) := by decide +kernel
theorem dX5_cell_42 : decode cX5_cell 42 = .ok (.bipush (-12), 2) := by decide +kernel

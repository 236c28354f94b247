theorem dX5_cast_33 : decode cX5_cast 33 = .ok (.iload_n 1, 1) := by decide +kernel
theorem dX5_cast_34 : decode cX5_cast 34 = .ok (.iconst 0, 1) := by decide +kernel
theorem dX5_cast_35 : decode cX5_cast 35 = .ok (.iconst 0, 1) := by decide +kernel
theorem dX5_cast_36 : decode cX5_cast 36 = .ok (.invokevirtual 211, 3) := by decide +kernel
theorem dX5_cast_39 : decode cX5_cast 39 = .ok (.iload_n 2, 1) := by decide +kernel
theorem dX5_cast_40 : decode cX5_cast 40 = .ok (.ifCond .ne 10, 3) := by decide +kernel
theorem dX5_cast_43 : decode cX5_cast 43 = .ok (.aload_n 0, 1) := by decide +kernel
theorem dX5_cast_44 : decode cX5_cast 44 = .ok (.getfield 204, 3) := by decide +kernel
theorem dX5_cast_47 : decode cX5_cast 47 = .ok (.goto 7, 3) := by decide +kernel
theorem dX5_cast_50 : decode cX5_cast 50 = .ok (.aload_n 0, 1) := by decide +kernel
theorem dX5_cast_51 : decode cX5_cast 51 = .ok (.getfield 208, 3) := by decide +kernel
theorem dX5_cast_54 : decode cX5_cast 54 = .ok (.ireturn, 1) := by decide +kernel
set_option maxRecDepth 20000 in
theorem ggX5_tryRow_X0_become : GoodIn wsX5_tryRow wsX0_become := goodIn_r _ [9, 10, 11, 12, 13, 14, 15, 16, 17, 18, 19, 20, 21, 22, 23, 24, 25, 26, 27, 140, 141, 142, 143, 144, 145, 146, 147, 148, 149, 150, 151, 152, 153, 154] rfl (by decide +kernel)
set_option maxRecDepth 20000 in
theorem gX5_tryRow_X0_become : GoodIn wsX5_tryRow (wsV RX5 184 RX0 yX0_become wsX0_become) := goodIn_app (goodIn_of _ (by decide +kernel)) ggX5_tryRow_X0_become
set_option maxRecDepth 20000 in
theorem ggX5_tryRow_X0_passHours : GoodIn wsX5_tryRow wsX0_passHours := goodIn_r _ [31, 25, 21, 15, 22, 24, 32, 33, 34, 8, 35, 27, 16, 17, 36, 37, 38, 39, 40, 41, 42, 43, 44, 45, 46, 47, 19, 18, 48, 49, 50, 51, 52, 53, 54, 55, 56, 57, 58, 59, 60, 61, 62, 63, 64, 65, 66, 67, 68, 69, 70, 71, 72, 73, 74, 75, 76, 77, 78, 79, 80, 81, 82, 83, 84, 85, 23, 20, 86, 140, 141, 142, 143, 144, 145, 146, 147, 148, 149, 150, 151, 152, 153, 154, 155, 156, 157, 158] rfl (by decide +kernel)
set_option maxRecDepth 20000 in
theorem gX5_tryRow_X0_passHours : GoodIn wsX5_tryRow (wsV RX5 181 RX0 yX0_passHours wsX0_passHours) := goodIn_app (goodIn_of _ (by decide +kernel)) ggX5_tryRow_X0_passHours
set_option maxRecDepth 20000 in
theorem ggX5_tryRow_X0_verdict : GoodIn wsX5_tryRow wsX0_verdict := goodIn_r _ [90, 24, 91, 92, 93, 8, 94, 10, 140, 141, 142, 143, 144, 145, 146, 147, 148, 149, 150, 151, 152, 153, 154] rfl (by decide +kernel)
set_option maxRecDepth 20000 in
theorem gX5_tryRow_X0_verdict : GoodIn wsX5_tryRow (wsV RX5 97 RX0 yX0_verdict wsX0_verdict) := goodIn_app (goodIn_of _ (by decide +kernel)) ggX5_tryRow_X0_verdict
set_option maxRecDepth 20000 in
theorem ggX5_tryRow_X5_tryLongerRows : GoodIn wsX5_tryRow wsX5_tryLongerRows := goodIn_r _ [98, 2, 99, 100, 101, 8, 102, 18, 55, 56, 57, 58, 21, 5, 6, 7, 9, 10, 11, 12, 13, 14, 15, 16, 17, 19, 20, 22, 23, 24, 25, 26, 27, 103, 104, 105, 106, 107, 108, 109, 110, 48, 49, 50, 51, 52, 53, 54, 36, 37, 38, 39, 40, 41, 42, 43, 44, 45, 46, 47, 59, 60, 61, 62, 63, 64, 65, 66, 67, 68, 69, 70, 71, 72, 73, 74, 111, 112, 77, 113, 114, 115, 116, 117, 118, 119, 120, 121, 122, 123, 124, 125, 28, 29, 30, 31, 32, 33, 34, 35, 75, 76, 78, 79, 80, 81, 82, 83, 84, 85, 86, 126, 127, 128, 0, 1, 3, 4, 87, 88, 89, 90, 91, 92, 93, 94, 95, 96, 97, 129, 130, 131, 132, 133, 134, 135, 136, 137, 138, 139, 140, 141, 142, 143, 144, 145, 146, 147, 148, 149, 150, 151, 152, 153, 154, 155, 156, 157, 158] rfl (by decide +kernel)
set_option maxRecDepth 20000 in
theorem gX5_tryRow_X5_tryLongerRows : GoodIn wsX5_tryRow (wsV RX5 215 RX5 yX5_tryLongerRows wsX5_tryLongerRows) := goodIn_app (goodIn_of _ (by decide +kernel)) ggX5_tryRow_X5_tryLongerRows
theorem dX5_tryRow_0 : decode cX5_tryRow 0 = .ok (.aload_n 0, 1) := by decide +kernel
theorem dX5_tryRow_1 : decode cX5_tryRow 1 = .ok (.getfield 51, 3) := by decide +kernel
theorem dX5_tryRow_4 : decode cX5_tryRow 4 = .ok (.aload_n 0, 1) := by decide +kernel
theorem dX5_tryRow_5 : decode cX5_tryRow 5 = .ok (.getfield 30, 3) := by decide +kernel
theorem dX5_tryRow_8 : decode cX5_tryRow 8 = .ok (.iload_n 1, 1) := by decide +kernel
theorem dX5_tryRow_9 : decode cX5_tryRow 9 = .ok (.aaload, 1) := by decide +kernel
theorem dX5_tryRow_10 : decode cX5_tryRow 10 = .ok (.invokevirtual 184, 3) := by decide +kernel
theorem dX5_tryRow_13 : decode cX5_tryRow 13 = .ok (.aload_n 0, 1) := by decide +kernel
theorem dX5_tryRow_14 : decode cX5_tryRow 14 = .ok (.getfield 51, 3) := by decide +kernel
theorem dX5_tryRow_17 : decode cX5_tryRow 17 = .ok (.bipush 12, 2) := by decide +kernel
theorem dX5_tryRow_19 : decode cX5_tryRow 19 = .ok (.invokevirtual 181, 3) := by decide +kernel
theorem dX5_tryRow_22 : decode cX5_tryRow 22 = .ok (.pop, 1) := by decide +kernel
theorem dX5_tryRow_23 : decode cX5_tryRow 23 = .ok (.aload_n 0, 1) := by decide +kernel
theorem dX5_tryRow_24 : decode cX5_tryRow 24 = .ok (.getfield 51, 3) := by decide +kernel
theorem dX5_tryRow_27 : decode cX5_tryRow 27 = .ok (.invokevirtual 97, 3) := by decide +kernel
theorem dX5_tryRow_30 : decode cX5_tryRow 30 = .ok (.istore 5, 2) := by decide +kernel
theorem dX5_tryRow_32 : decode cX5_tryRow 32 = .ok (.iload 5, 2) := by decide +kernel
theorem dX5_tryRow_34 : decode cX5_tryRow 34 = .ok (.aload_n 0, 1) := by decide +kernel
theorem dX5_tryRow_35 : decode cX5_tryRow 35 = .ok (.getfield 208, 3) := by decide +kernel
theorem dX5_tryRow_38 : decode cX5_tryRow 38 = .ok (.if_icmp .le 15, 3) := by decide +kernel
theorem dX5_tryRow_41 : decode cX5_tryRow 41 = .ok (.aload_n 0, 1) := by decide +kernel
theorem dX5_tryRow_42 : decode cX5_tryRow 42 = .ok (.iload 5, 2) := by decide +kernel
theorem dX5_tryRow_44 : decode cX5_tryRow 44 = .ok (.putfield 208, 3) := by decide +kernel
theorem dX5_tryRow_47 : decode cX5_tryRow 47 = .ok (.aload_n 0, 1) := by decide +kernel
theorem dX5_tryRow_48 : decode cX5_tryRow 48 = .ok (.iload 4, 2) := by decide +kernel
theorem dX5_tryRow_50 : decode cX5_tryRow 50 = .ok (.putfield 204, 3) := by decide +kernel
theorem dX5_tryRow_53 : decode cX5_tryRow 53 = .ok (.iload_n 1, 1) := by decide +kernel
theorem dX5_tryRow_54 : decode cX5_tryRow 54 = .ok (.iload_n 2, 1) := by decide +kernel
theorem dX5_tryRow_55 : decode cX5_tryRow 55 = .ok (.if_icmp .ge 12, 3) := by decide +kernel
theorem dX5_tryRow_58 : decode cX5_tryRow 58 = .ok (.aload_n 0, 1) := by decide +kernel
theorem dX5_tryRow_59 : decode cX5_tryRow 59 = .ok (.iload_n 1, 1) := by decide +kernel
theorem dX5_tryRow_60 : decode cX5_tryRow 60 = .ok (.iload_n 2, 1) := by decide +kernel
theorem dX5_tryRow_61 : decode cX5_tryRow 61 = .ok (.iload_n 3, 1) := by decide +kernel
theorem dX5_tryRow_62 : decode cX5_tryRow 62 = .ok (.iload 4, 2) := by decide +kernel
theorem dX5_tryRow_64 : decode cX5_tryRow 64 = .ok (.invokevirtual 215, 3) := by decide +kernel
theorem dX5_tryRow_67 : decode cX5_tryRow 67 = .ok (.return_, 1) := by decide +kernel
set_option maxRecDepth 20000 in
theorem ggX5_tryLongerRows_X0_canLetFall : GoodIn wsX5_tryLongerRows wsX0_canLetFall := goodIn_r _ [6, 7, 8, 9, 10, 5, 11, 12, 140, 141, 142, 143, 144, 145, 146, 147, 148, 149, 150, 151, 152, 153, 154] rfl (by decide +kernel)
set_option maxRecDepth 20000 in
theorem gX5_tryLongerRows_X0_canLetFall : GoodIn wsX5_tryLongerRows (wsV RX5 175 RX0 yX0_canLetFall wsX0_canLetFall) := goodIn_app (goodIn_of _ (by decide +kernel)) ggX5_tryLongerRows_X0_canLetFall
set_option maxRecDepth 20000 in
theorem ggX5_tryLongerRows_X0_become : GoodIn wsX5_tryLongerRows wsX0_become := goodIn_r _ [16, 17, 18, 19, 20, 21, 22, 23, 24, 7, 25, 26, 12, 27, 28, 29, 30, 31, 32, 140, 141, 142, 143, 144, 145, 146, 147, 148, 149, 150, 151, 152, 153, 154] rfl (by decide +kernel)
set_option maxRecDepth 20000 in
theorem gX5_tryLongerRows_X0_become : GoodIn wsX5_tryLongerRows (wsV RX5 184 RX0 yX0_become wsX0_become) := goodIn_app (goodIn_of _ (by decide +kernel)) ggX5_tryLongerRows_X0_become
set_option maxRecDepth 20000 in
theorem ggX5_tryLongerRows_X0_letFall : GoodIn wsX5_tryLongerRows wsX0_letFall := goodIn_r _ [36, 12, 27, 28, 37, 38, 39, 5, 40, 7, 23, 32, 24, 41, 42, 43, 44, 45, 46, 47, 48, 49, 50, 51, 52, 53, 54, 55, 56, 57, 58, 59, 25, 30, 29, 8, 9, 10, 11, 60, 61, 62, 63, 64, 65, 66, 67, 68, 69, 70, 71, 72, 73, 74, 75, 76, 77, 78, 79, 80, 81, 82, 83, 84, 85, 86, 87, 88, 89, 90, 91, 140, 141, 142, 143, 144, 145, 146, 147, 148, 149, 150, 151, 152, 153, 154, 155, 156, 157, 158] rfl (by decide +kernel)
set_option maxRecDepth 20000 in
theorem gX5_tryLongerRows_X0_letFall : GoodIn wsX5_tryLongerRows (wsV RX5 178 RX0 yX0_letFall wsX0_letFall) := goodIn_app (goodIn_of _ (by decide +kernel)) ggX5_tryLongerRows_X0_letFall
set_option maxRecDepth 20000 in
theorem ggX5_tryLongerRows_X0_passHours : GoodIn wsX5_tryLongerRows wsX0_passHours := goodIn_r _ [95, 30, 12, 22, 27, 29, 96, 97, 98, 5, 99, 32, 23, 24, 48, 49, 50, 51, 52, 53, 54, 55, 56, 57, 58, 59, 25, 7, 41, 42, 43, 44, 45, 46, 47, 8, 9, 10, 11, 60, 61, 62, 63, 64, 65, 66, 67, 68, 69, 70, 71, 72, 73, 74, 75, 100, 101, 78, 102, 103, 104, 105, 106, 107, 108, 109, 28, 26, 110, 140, 141, 142, 143, 144, 145, 146, 147, 148, 149, 150, 151, 152, 153, 154, 155, 156, 157, 158] rfl (by decide +kernel)
set_option maxRecDepth 20000 in
theorem gX5_tryLongerRows_X0_passHours : GoodIn wsX5_tryLongerRows (wsV RX5 181 RX0 yX0_passHours wsX0_passHours) := goodIn_app (goodIn_of _ (by decide +kernel)) ggX5_tryLongerRows_X0_passHours
set_option maxRecDepth 20000 in
theorem ggX5_tryLongerRows_X5_tryRow : GoodIn wsX5_tryLongerRows wsX5_tryRow := goodIn_r _ [114, 115, 1, 116, 117, 13, 14, 15, 5, 16, 17, 18, 19, 20, 21, 22, 23, 24, 7, 25, 26, 12, 27, 28, 29, 30, 31, 32, 92, 93, 94, 95, 96, 97, 98, 99, 48, 49, 50, 51, 52, 53, 54, 55, 56, 57, 58, 59, 41, 42, 43, 44, 45, 46, 47, 8, 9, 10, 11, 60, 61, 62, 63, 64, 65, 66, 67, 68, 69, 70, 71, 72, 73, 74, 75, 100, 101, 78, 102, 103, 104, 105, 106, 107, 108, 109, 110, 118, 119, 120, 121, 122, 123, 124, 125, 126, 127, 128, 0, 2, 3, 4, 6, 33, 34, 35, 36, 37, 38, 39, 40, 76, 77, 79, 80, 81, 82, 83, 84, 85, 86, 87, 88, 89, 90, 91, 111, 112, 113, 129, 130, 131, 132, 133, 134, 135, 136, 137, 138, 139, 140, 141, 142, 143, 144, 145, 146, 147, 148, 149, 150, 151, 152, 153, 154, 155, 156, 157, 158] rfl (by decide +kernel)
set_option maxRecDepth 20000 in
theorem gX5_tryLongerRows_X5_tryRow : GoodIn wsX5_tryLongerRows (wsV RX5 211 RX5 yX5_tryRow wsX5_tryRow) := goodIn_app (goodIn_of _ (by decide +kernel)) ggX5_tryLongerRows_X5_tryRow
theorem dX5_tryLongerRows_0 : decode cX5_tryLongerRows 0 = .ok (.iload_n 1, 1) := by decide +kernel
theorem dX5_tryLongerRows_1 : decode cX5_tryLongerRows 1 = .ok (.iconst 1, 1) := by decide +kernel
theorem dX5_tryLongerRows_2 : decode cX5_tryLongerRows 2 = .ok (.iadd, 1) := by decide +kernel
theorem dX5_tryLongerRows_3 : decode cX5_tryLongerRows 3 = .ok (.aload_n 0, 1) := by decide +kernel
theorem dX5_tryLongerRows_4 : decode cX5_tryLongerRows 4 = .ok (.getfield 30, 3) := by decide +kernel
theorem dX5_tryLongerRows_7 : decode cX5_tryLongerRows 7 = .ok (.arraylength, 1) := by decide +kernel
theorem dX5_tryLongerRows_8 : decode cX5_tryLongerRows 8 = .ok (.if_icmp .lt 4, 3) := by decide +kernel
theorem dX5_tryLongerRows_11 : decode cX5_tryLongerRows 11 = .ok (.return_, 1) := by decide +kernel
theorem dX5_tryLongerRows_12 : decode cX5_tryLongerRows 12 = .ok (.aload_n 0, 1) := by decide +kernel
theorem dX5_tryLongerRows_13 : decode cX5_tryLongerRows 13 = .ok (.getfield 30, 3) := by decide +kernel
theorem dX5_tryLongerRows_16 : decode cX5_tryLongerRows 16 = .ok (.iload_n 1, 1) := by decide +kernel
theorem dX5_tryLongerRows_17 : decode cX5_tryLongerRows 17 = .ok (.aaload, 1) := by decide +kernel
theorem dX5_tryLongerRows_18 : decode cX5_tryLongerRows 18 = .ok (.astore 5, 2) := by decide +kernel
theorem dX5_tryLongerRows_20 : decode cX5_tryLongerRows 20 = .ok (.aload_n 0, 1) := by decide +kernel
theorem dX5_tryLongerRows_21 : decode cX5_tryLongerRows 21 = .ok (.getfield 30, 3) := by decide +kernel
theorem dX5_tryLongerRows_24 : decode cX5_tryLongerRows 24 = .ok (.iload_n 1, 1) := by decide +kernel
theorem dX5_tryLongerRows_25 : decode cX5_tryLongerRows 25 = .ok (.iconst 1, 1) := by decide +kernel
theorem dX5_tryLongerRows_26 : decode cX5_tryLongerRows 26 = .ok (.iadd, 1) := by decide +kernel
theorem dX5_tryLongerRows_27 : decode cX5_tryLongerRows 27 = .ok (.aaload, 1) := by decide +kernel
theorem dX5_tryLongerRows_28 : decode cX5_tryLongerRows 28 = .ok (.astore 6, 2) := by decide +kernel
theorem dX5_tryLongerRows_30 : decode cX5_tryLongerRows 30 = .ok (.iconst 0, 1) := by decide +kernel
theorem dX5_tryLongerRows_31 : decode cX5_tryLongerRows 31 = .ok (.istore 7, 2) := by decide +kernel
theorem dX5_tryLongerRows_33 : decode cX5_tryLongerRows 33 = .ok (.iload 7, 2) := by decide +kernel
theorem dX5_tryLongerRows_35 : decode cX5_tryLongerRows 35 = .ok (.aload 5, 2) := by decide +kernel
theorem dX5_tryLongerRows_37 : decode cX5_tryLongerRows 37 = .ok (.getfield 55, 3) := by decide +kernel
theorem dX5_tryLongerRows_40 : decode cX5_tryLongerRows 40 = .ok (.if_icmp .ge 74, 3) := by decide +kernel
theorem dX5_tryLongerRows_43 : decode cX5_tryLongerRows 43 = .ok (.iload_n 3, 1) := by decide +kernel
theorem dX5_tryLongerRows_44 : decode cX5_tryLongerRows 44 = .ok (.iload 7, 2) := by decide +kernel
theorem dX5_tryLongerRows_46 : decode cX5_tryLongerRows 46 = .ok (.ishr, 1) := by decide +kernel
theorem dX5_tryLongerRows_47 : decode cX5_tryLongerRows 47 = .ok (.iconst 1, 1) := by decide +kernel
theorem dX5_tryLongerRows_48 : decode cX5_tryLongerRows 48 = .ok (.iand, 1) := by decide +kernel
theorem dX5_tryLongerRows_49 : decode cX5_tryLongerRows 49 = .ok (.ifCond .ne 59, 3) := by decide +kernel
theorem dX5_tryLongerRows_52 : decode cX5_tryLongerRows 52 = .ok (.aload 5, 2) := by decide +kernel
theorem dX5_tryLongerRows_54 : decode cX5_tryLongerRows 54 = .ok (.iload 7, 2) := by decide +kernel
theorem dX5_tryLongerRows_56 : decode cX5_tryLongerRows 56 = .ok (.invokevirtual 175, 3) := by decide +kernel
theorem dX5_tryLongerRows_59 : decode cX5_tryLongerRows 59 = .ok (.ifCond .eq 49, 3) := by decide +kernel
theorem dX5_tryLongerRows_62 : decode cX5_tryLongerRows 62 = .ok (.aload 6, 2) := by decide +kernel
theorem dX5_tryLongerRows_64 : decode cX5_tryLongerRows 64 = .ok (.aload 5, 2) := by decide +kernel
theorem dX5_tryLongerRows_66 : decode cX5_tryLongerRows 66 = .ok (.invokevirtual 184, 3) := by decide +kernel
theorem dX5_tryLongerRows_69 : decode cX5_tryLongerRows 69 = .ok (.aload 6, 2) := by decide +kernel
theorem dX5_tryLongerRows_71 : decode cX5_tryLongerRows 71 = .ok (.iload 7, 2) := by decide +kernel
theorem dX5_tryLongerRows_73 : decode cX5_tryLongerRows 73 = .ok (.invokevirtual 178, 3) := by decide +kernel
theorem dX5_tryLongerRows_76 : decode cX5_tryLongerRows 76 = .ok (.pop, 1) := by decide +kernel
theorem dX5_tryLongerRows_77 : decode cX5_tryLongerRows 77 = .ok (.aload 6, 2) := by decide +kernel
theorem dX5_tryLongerRows_79 : decode cX5_tryLongerRows 79 = .ok (.iconst 1, 1) := by decide +kernel
theorem dX5_tryLongerRows_80 : decode cX5_tryLongerRows 80 = .ok (.invokevirtual 181, 3) := by decide +kernel
theorem dX5_tryLongerRows_83 : decode cX5_tryLongerRows 83 = .ok (.pop, 1) := by decide +kernel
theorem dX5_tryLongerRows_84 : decode cX5_tryLongerRows 84 = .ok (.aload_n 0, 1) := by decide +kernel
theorem dX5_tryLongerRows_85 : decode cX5_tryLongerRows 85 = .ok (.iload_n 1, 1) := by decide +kernel
theorem dX5_tryLongerRows_86 : decode cX5_tryLongerRows 86 = .ok (.iconst 1, 1) := by decide +kernel
theorem dX5_tryLongerRows_87 : decode cX5_tryLongerRows 87 = .ok (.iadd, 1) := by decide +kernel
theorem dX5_tryLongerRows_88 : decode cX5_tryLongerRows 88 = .ok (.iload_n 2, 1) := by decide +kernel
theorem dX5_tryLongerRows_89 : decode cX5_tryLongerRows 89 = .ok (.iload_n 3, 1) := by decide +kernel
theorem dX5_tryLongerRows_90 : decode cX5_tryLongerRows 90 = .ok (.iconst 1, 1) := by decide +kernel
theorem dX5_tryLongerRows_91 : decode cX5_tryLongerRows 91 = .ok (.iload 7, 2) := by decide +kernel
theorem dX5_tryLongerRows_93 : decode cX5_tryLongerRows 93 = .ok (.ishl, 1) := by decide +kernel
theorem dX5_tryLongerRows_94 : decode cX5_tryLongerRows 94 = .ok (.ior, 1) := by decide +kernel
theorem dX5_tryLongerRows_95 : decode cX5_tryLongerRows 95 = .ok (.iload 4, 2) := by decide +kernel
theorem dX5_tryLongerRows_97 : decode cX5_tryLongerRows 97 = .ok (.bipush 10, 2) := by decide +kernel
theorem dX5_tryLongerRows_99 : decode cX5_tryLongerRows 99 = .ok (.imul, 1) := by decide +kernel
theorem dX5_tryLongerRows_100 : decode cX5_tryLongerRows 100 = .ok (.iload 7, 2) := by decide +kernel
theorem dX5_tryLongerRows_102 : decode cX5_tryLongerRows 102 = .ok (.iadd, 1) := by decide +kernel
theorem dX5_tryLongerRows_103 : decode cX5_tryLongerRows 103 = .ok (.iconst 1, 1) := by decide +kernel
theorem dX5_tryLongerRows_104 : decode cX5_tryLongerRows 104 = .ok (.iadd, 1) := by decide +kernel
theorem dX5_tryLongerRows_105 : decode cX5_tryLongerRows 105 = .ok (.invokevirtual 211, 3) := by decide +kernel
theorem dX5_tryLongerRows_108 : decode cX5_tryLongerRows 108 = .ok (.iinc 7 1, 3) := by decide +kernel
theorem dX5_tryLongerRows_111 : decode cX5_tryLongerRows 111 = .ok (.goto (-78), 3) := by decide +kernel
theorem dX5_tryLongerRows_114 : decode cX5_tryLongerRows 114 = .ok (.return_, 1) := by decide +kernel
set_option maxRecDepth 20000 in
theorem ggX5_mean_J6_bitCount_0f7a4 : GoodIn wsX5_mean wsJ6_bitCount_0f7a4 := goodIn_r _ [6, 7, 8, 9] rfl (by decide +kernel)
set_option maxRecDepth 20000 in
theorem gX5_mean_J6_bitCount_0f7a4 : GoodIn wsX5_mean (va_wsS RX5 196 yJ6_bitCount_0f7a4 wsJ6_bitCount_0f7a4) := goodIn_app (goodIn_of _ (by decide +kernel)) ggX5_mean_J6_bitCount_0f7a4
set_option maxRecDepth 20000 in
theorem ggX5_mean_X0_verdict : GoodIn wsX5_mean wsX0_verdict := goodIn_r _ [14, 15, 16, 17, 18, 13, 19, 20, 46, 47, 48, 49, 50, 51, 52, 53, 54, 55, 56, 57, 58, 59, 60] rfl (by decide +kernel)
set_option maxRecDepth 20000 in
theorem gX5_mean_X0_verdict : GoodIn wsX5_mean (wsV RX5 97 RX0 yX0_verdict wsX0_verdict) := goodIn_app (goodIn_of _ (by decide +kernel)) ggX5_mean_X0_verdict
set_option maxRecDepth 20000 in
theorem ggX5_mean_X5_lowest : GoodIn wsX5_mean wsX5_lowest := goodIn_r _ [24, 25, 26, 27, 28, 2, 29, 30, 23, 31, 32, 33, 34] rfl (by decide +kernel)
set_option maxRecDepth 20000 in
theorem gX5_mean_X5_lowest : GoodIn wsX5_mean (va_wsS RX5 220 yX5_lowest wsX5_lowest) := goodIn_app (goodIn_of _ (by decide +kernel)) ggX5_mean_X5_lowest
theorem dX5_mean_0 : decode cX5_mean 0 = .ok (.aload_n 0, 1) := by decide +kernel
theorem dX5_mean_1 : decode cX5_mean 1 = .ok (.getfield 44, 3) := by decide +kernel
theorem dX5_mean_4 : decode cX5_mean 4 = .ok (.getfield 94, 3) := by decide +kernel
theorem dX5_mean_7 : decode cX5_mean 7 = .ok (.invokestatic 196, 3) := by decide +kernel
theorem dX5_mean_10 : decode cX5_mean 10 = .ok (.istore_n 2, 1) := by decide +kernel
theorem dX5_mean_11 : decode cX5_mean 11 = .ok (.iload_n 2, 1) := by decide +kernel
theorem dX5_mean_12 : decode cX5_mean 12 = .ok (.ifCond .ne 9, 3) := by decide +kernel
theorem dX5_mean_15 : decode cX5_mean 15 = .ok (.ldc2_w 218, 3) := by decide +kernel
theorem dX5_mean_18 : decode cX5_mean 18 = .ok (.goto 15, 3) := by decide +kernel
theorem dX5_mean_21 : decode cX5_mean 21 = .ok (.aload_n 0, 1) := by decide +kernel
theorem dX5_mean_22 : decode cX5_mean 22 = .ok (.getfield 44, 3) := by decide +kernel
theorem dX5_mean_25 : decode cX5_mean 25 = .ok (.invokevirtual 97, 3) := by decide +kernel
theorem dX5_mean_28 : decode cX5_mean 28 = .ok (.iload_n 2, 1) := by decide +kernel
theorem dX5_mean_29 : decode cX5_mean 29 = .ok (.iload_n 1, 1) := by decide +kernel
theorem dX5_mean_30 : decode cX5_mean 30 = .ok (.invokestatic 220, 3) := by decide +kernel
theorem dX5_mean_33 : decode cX5_mean 33 = .ok (.lreturn, 1) := by decide +kernel
set_option maxRecDepth 20000 in
theorem ggX5_lowest_X5_commonDivisor : GoodIn wsX5_lowest wsX5_commonDivisor := goodIn_r _ [9] rfl (by decide +kernel)
set_option maxRecDepth 20000 in
theorem gX5_lowest_X5_commonDivisor : GoodIn wsX5_lowest (va_wsS RX5 227 yX5_commonDivisor wsX5_commonDivisor) := goodIn_app (goodIn_of _ (by decide +kernel)) ggX5_lowest_X5_commonDivisor
set_option maxRecDepth 20000 in
theorem ggX5_lowest_X5_isBelow : GoodIn wsX5_lowest wsX5_isBelow := goodIn_r _ [12] rfl (by decide +kernel)
set_option maxRecDepth 20000 in
theorem gX5_lowest_X5_isBelow : GoodIn wsX5_lowest (va_wsS RX5 100 yX5_isBelow wsX5_isBelow) := goodIn_app (goodIn_of _ (by decide +kernel)) ggX5_lowest_X5_isBelow
theorem dX5_lowest_0 : decode cX5_lowest 0 = .ok (.iload_n 0, 1) := by decide +kernel
theorem dX5_lowest_1 : decode cX5_lowest 1 = .ok (.invokestatic 224, 3) := by decide +kernel
theorem dX5_lowest_4 : decode cX5_lowest 4 = .ok (.iload_n 1, 1) := by decide +kernel
theorem dX5_lowest_5 : decode cX5_lowest 5 = .ok (.invokestatic 227, 3) := by decide +kernel
theorem dX5_lowest_8 : decode cX5_lowest 8 = .ok (.istore_n 3, 1) := by decide +kernel
theorem dX5_lowest_9 : decode cX5_lowest 9 = .ok (.iload_n 2, 1) := by decide +kernel
theorem dX5_lowest_10 : decode cX5_lowest 10 = .ok (.iconst 2, 1) := by decide +kernel
theorem dX5_lowest_11 : decode cX5_lowest 11 = .ok (.invokestatic 100, 3) := by decide +kernel
theorem dX5_lowest_14 : decode cX5_lowest 14 = .ok (.ifCond .eq 7, 3) := by decide +kernel
theorem dX5_lowest_17 : decode cX5_lowest 17 = .ok (.iload_n 3, 1) := by decide +kernel
theorem dX5_lowest_18 : decode cX5_lowest 18 = .ok (.ifCond .gt 7, 3) := by decide +kernel
theorem dX5_lowest_21 : decode cX5_lowest 21 = .ok (.ldc2_w 218, 3) := by decide +kernel
theorem dX5_lowest_24 : decode cX5_lowest 24 = .ok (.lreturn, 1) := by decide +kernel
theorem dX5_lowest_25 : decode cX5_lowest 25 = .ok (.iload_n 2, 1) := by decide +kernel
theorem dX5_lowest_26 : decode cX5_lowest 26 = .ok (.ifCond .ne 7, 3) := by decide +kernel
theorem dX5_lowest_29 : decode cX5_lowest 29 = .ok (.iload_n 0, 1) := by decide +kernel
theorem dX5_lowest_30 : decode cX5_lowest 30 = .ok (.goto 4, 3) := by decide +kernel
theorem dX5_lowest_33 : decode cX5_lowest 33 = .ok (.iload_n 1, 1) := by decide +kernel
theorem dX5_lowest_34 : decode cX5_lowest 34 = .ok (.iload_n 3, 1) := by decide +kernel
theorem dX5_lowest_35 : decode cX5_lowest 35 = .ok (.idiv, 1) := by decide +kernel
theorem dX5_lowest_36 : decode cX5_lowest 36 = .ok (.i2l, 1) := by decide +kernel
theorem dX5_lowest_37 : decode cX5_lowest 37 = .ok (.lreturn, 1) := by decide +kernel
theorem dX5_commonDivisor_0 : decode cX5_commonDivisor 0 = .ok (.iload_n 0, 1) := by decide +kernel
theorem dX5_commonDivisor_1 : decode cX5_commonDivisor 1 = .ok (.istore_n 2, 1) := by decide +kernel
theorem dX5_commonDivisor_2 : decode cX5_commonDivisor 2 = .ok (.iload_n 1, 1) := by decide +kernel
theorem dX5_commonDivisor_3 : decode cX5_commonDivisor 3 = .ok (.istore_n 3, 1) := by decide +kernel
theorem dX5_commonDivisor_4 : decode cX5_commonDivisor 4 = .ok (.iconst 0, 1) := by decide +kernel
theorem dX5_commonDivisor_5 : decode cX5_commonDivisor 5 = .ok (.istore 4, 2) := by decide +kernel
theorem dX5_commonDivisor_7 : decode cX5_commonDivisor 7 = .ok (.iload 4, 2) := by decide +kernel
theorem dX5_commonDivisor_9 : decode cX5_commonDivisor 9 = .ok (.bipush 64, 2) := by decide +kernel
theorem dX5_commonDivisor_11 : decode cX5_commonDivisor 11 = .ok (.if_icmp .ge 23, 3) := by decide +kernel
theorem dX5_commonDivisor_14 : decode cX5_commonDivisor 14 = .ok (.iload_n 3, 1) := by decide +kernel
theorem dX5_commonDivisor_15 : decode cX5_commonDivisor 15 = .ok (.ifCond .eq 19, 3) := by decide +kernel
theorem dX5_commonDivisor_18 : decode cX5_commonDivisor 18 = .ok (.iload_n 2, 1) := by decide +kernel
theorem dX5_commonDivisor_19 : decode cX5_commonDivisor 19 = .ok (.iload_n 3, 1) := by decide +kernel
theorem dX5_commonDivisor_20 : decode cX5_commonDivisor 20 = .ok (.irem, 1) := by decide +kernel
theorem dX5_commonDivisor_21 : decode cX5_commonDivisor 21 = .ok (.istore 5, 2) := by decide +kernel
theorem dX5_commonDivisor_23 : decode cX5_commonDivisor 23 = .ok (.iload_n 3, 1) := by decide +kernel
theorem dX5_commonDivisor_24 : decode cX5_commonDivisor 24 = .ok (.istore_n 2, 1) := by decide +kernel
theorem dX5_commonDivisor_25 : decode cX5_commonDivisor 25 = .ok (.iload 5, 2) := by decide +kernel
theorem dX5_commonDivisor_27 : decode cX5_commonDivisor 27 = .ok (.istore_n 3, 1) := by decide +kernel
theorem dX5_commonDivisor_28 : decode cX5_commonDivisor 28 = .ok (.iinc 4 1, 3) := by decide +kernel
theorem dX5_commonDivisor_31 : decode cX5_commonDivisor 31 = .ok (.goto (-24), 3) := by decide +kernel
theorem dX5_commonDivisor_34 : decode cX5_commonDivisor 34 = .ok (.iload_n 2, 1) := by decide +kernel
theorem dX5_commonDivisor_35 : decode cX5_commonDivisor 35 = .ok (.ireturn, 1) := by decide +kernel
set_option maxRecDepth 20000 in
theorem ggX5_judge_X5_refusalOfTale : GoodIn wsX5_judge wsX5_refusalOfTale := goodIn_r _ [7, 8, 9, 10, 6, 11, 12, 13, 14, 15, 16, 17, 104, 105, 106, 107, 108, 109, 110, 111, 112, 113, 114, 115, 116, 117] rfl (by decide +kernel)
set_option maxRecDepth 20000 in
theorem gX5_judge_X5_refusalOfTale : GoodIn wsX5_judge (wsV RX5 230 RX5 yX5_refusalOfTale wsX5_refusalOfTale) := goodIn_app (goodIn_of _ (by decide +kernel)) ggX5_judge_X5_refusalOfTale
set_option maxRecDepth 20000 in
theorem ggX5_judge_X0_become : GoodIn wsX5_judge wsX0_become := goodIn_r _ [22, 23, 24, 25, 26, 27, 28, 29, 30, 31, 32, 33, 34, 35, 36, 37, 38, 39, 40, 118, 119, 120, 121, 122, 123, 124, 125, 126, 127, 128, 129, 130, 131, 132] rfl (by decide +kernel)
set_option maxRecDepth 20000 in
theorem gX5_judge_X0_become : GoodIn wsX5_judge (wsV RX5 184 RX0 yX0_become wsX0_become) := goodIn_app (goodIn_of _ (by decide +kernel)) ggX5_judge_X0_become
set_option maxRecDepth 20000 in
theorem ggX5_judge_X5_firstOtherwise : GoodIn wsX5_judge wsX5_firstOtherwise := goodIn_r _ [44, 8, 1, 45, 46, 47, 21, 48, 38, 34, 28, 35, 37, 49, 50, 51, 52, 40, 29, 30, 53, 54, 55, 56, 57, 58, 59, 60, 61, 62, 63, 64, 32, 31, 65, 66, 67, 68, 69, 70, 71, 72, 73, 74, 75, 76, 77, 78, 79, 80, 81, 82, 6, 83, 84, 85, 86, 87, 88, 89, 90, 91, 92, 93, 94, 95, 96, 97, 98, 99, 100, 101, 36, 33, 102, 103, 104, 105, 106, 107, 108, 109, 110, 111, 112, 113, 114, 115, 116, 117, 118, 119, 120, 121, 122, 123, 124, 125, 126, 127, 128, 129, 130, 131, 132, 133, 134, 135, 136] rfl (by decide +kernel)
set_option maxRecDepth 20000 in
theorem gX5_judge_X5_firstOtherwise : GoodIn wsX5_judge (wsV RX5 233 RX5 yX5_firstOtherwise wsX5_firstOtherwise) := goodIn_app (goodIn_of _ (by decide +kernel)) ggX5_judge_X5_firstOtherwise
theorem dX5_judge_0 : decode cX5_judge 0 = .ok (.aload_n 0, 1) := by decide +kernel
theorem dX5_judge_1 : decode cX5_judge 1 = .ok (.iload_n 1, 1) := by decide +kernel
theorem dX5_judge_2 : decode cX5_judge 2 = .ok (.invokevirtual 230, 3) := by decide +kernel
theorem dX5_judge_5 : decode cX5_judge 5 = .ok (.istore_n 2, 1) := by decide +kernel
theorem dX5_judge_6 : decode cX5_judge 6 = .ok (.iload_n 2, 1) := by decide +kernel
theorem dX5_judge_7 : decode cX5_judge 7 = .ok (.ifCond .eq 5, 3) := by decide +kernel
theorem dX5_judge_10 : decode cX5_judge 10 = .ok (.iload_n 2, 1) := by decide +kernel
theorem dX5_judge_11 : decode cX5_judge 11 = .ok (.ireturn, 1) := by decide +kernel
theorem dX5_judge_12 : decode cX5_judge 12 = .ok (.aload_n 0, 1) := by decide +kernel
theorem dX5_judge_13 : decode cX5_judge 13 = .ok (.getfield 51, 3) := by decide +kernel
theorem dX5_judge_16 : decode cX5_judge 16 = .ok (.aload_n 0, 1) := by decide +kernel
theorem dX5_judge_17 : decode cX5_judge 17 = .ok (.getfield 44, 3) := by decide +kernel
theorem dX5_judge_20 : decode cX5_judge 20 = .ok (.invokevirtual 184, 3) := by decide +kernel
theorem dX5_judge_23 : decode cX5_judge 23 = .ok (.aload_n 0, 1) := by decide +kernel
theorem dX5_judge_24 : decode cX5_judge 24 = .ok (.iload_n 1, 1) := by decide +kernel
theorem dX5_judge_25 : decode cX5_judge 25 = .ok (.invokevirtual 233, 3) := by decide +kernel
theorem dX5_judge_28 : decode cX5_judge 28 = .ok (.ireturn, 1) := by decide +kernel
set_option maxRecDepth 20000 in
theorem ggX5_kinds_X0_hasWitness : GoodIn wsX5_kinds wsX0_hasWitness := goodIn_r _ [7, 8, 9, 10, 11, 123, 124, 125, 126, 127, 128, 129, 130, 131, 132, 133, 134, 135, 136, 137] rfl (by decide +kernel)
set_option maxRecDepth 20000 in
theorem gX5_kinds_X0_hasWitness : GoodIn wsX5_kinds (wsV RX5 118 RX0 yX0_hasWitness wsX0_hasWitness) := goodIn_app (goodIn_of _ (by decide +kernel)) ggX5_kinds_X0_hasWitness
set_option maxRecDepth 20000 in
theorem ggX5_kinds_X5_refusalOfFitting : GoodIn wsX5_kinds wsX5_refusalOfFitting := goodIn_r _ [15, 16, 17, 18, 10, 19, 20, 21, 9, 11, 22, 23, 24, 25, 26, 27, 112, 113, 114, 115, 116, 117, 118, 119, 120, 121, 122, 138, 139, 140] rfl (by decide +kernel)
set_option maxRecDepth 20000 in
theorem gX5_kinds_X5_refusalOfFitting : GoodIn wsX5_kinds (wsV RX5 236 RX5 yX5_refusalOfFitting wsX5_refusalOfFitting) := goodIn_app (goodIn_of _ (by decide +kernel)) ggX5_kinds_X5_refusalOfFitting
set_option maxRecDepth 20000 in
theorem ggX5_kinds_X0_become : GoodIn wsX5_kinds wsX0_become := goodIn_r _ [31, 32, 33, 34, 35, 36, 37, 38, 39, 40, 41, 42, 43, 44, 45, 46, 47, 8, 48, 123, 124, 125, 126, 127, 128, 129, 130, 131, 132, 133, 134, 135, 136, 137] rfl (by decide +kernel)
set_option maxRecDepth 20000 in
theorem gX5_kinds_X0_become : GoodIn wsX5_kinds (wsV RX5 184 RX0 yX0_become wsX0_become) := goodIn_app (goodIn_of _ (by decide +kernel)) ggX5_kinds_X0_become
set_option maxRecDepth 20000 in
theorem ggX5_kinds_X5_firstOtherwise : GoodIn wsX5_kinds wsX5_firstOtherwise := goodIn_r _ [52, 20, 2, 53, 54, 55, 6, 56, 47, 43, 37, 44, 46, 57, 58, 59, 60, 48, 38, 39, 61, 62, 63, 64, 65, 66, 67, 68, 69, 70, 71, 72, 41, 40, 73, 74, 75, 76, 77, 78, 79, 80, 81, 82, 83, 84, 85, 86, 87, 88, 89, 90, 10, 91, 92, 93, 94, 95, 96, 97, 98, 99, 100, 101, 102, 103, 104, 105, 106, 107, 108, 109, 45, 42, 110, 111, 112, 113, 114, 115, 116, 117, 118, 119, 120, 121, 122, 138, 139, 140, 123, 124, 125, 126, 127, 128, 129, 130, 131, 132, 133, 134, 135, 136, 137, 141, 142, 143, 144] rfl (by decide +kernel)
set_option maxRecDepth 20000 in
theorem gX5_kinds_X5_firstOtherwise : GoodIn wsX5_kinds (wsV RX5 233 RX5 yX5_firstOtherwise wsX5_firstOtherwise) := goodIn_app (goodIn_of _ (by decide +kernel)) ggX5_kinds_X5_firstOtherwise
theorem dX5_kinds_0 : decode cX5_kinds 0 = .ok (.aload_n 0, 1) := by decide +kernel
theorem dX5_kinds_1 : decode cX5_kinds 1 = .ok (.iload_n 1, 1) := by decide +kernel
theorem dX5_kinds_2 : decode cX5_kinds 2 = .ok (.aload_n 0, 1) := by decide +kernel
theorem dX5_kinds_3 : decode cX5_kinds 3 = .ok (.getfield 44, 3) := by decide +kernel
theorem dX5_kinds_6 : decode cX5_kinds 6 = .ok (.iload_n 2, 1) := by decide +kernel
theorem dX5_kinds_7 : decode cX5_kinds 7 = .ok (.invokevirtual 118, 3) := by decide +kernel
theorem dX5_kinds_10 : decode cX5_kinds 10 = .ok (.iload_n 3, 1) := by decide +kernel
theorem dX5_kinds_11 : decode cX5_kinds 11 = .ok (.invokevirtual 236, 3) := by decide +kernel
theorem dX5_kinds_14 : decode cX5_kinds 14 = .ok (.istore 4, 2) := by decide +kernel
theorem dX5_kinds_16 : decode cX5_kinds 16 = .ok (.iload 4, 2) := by decide +kernel
theorem dX5_kinds_18 : decode cX5_kinds 18 = .ok (.ifCond .eq 6, 3) := by decide +kernel
theorem dX5_kinds_21 : decode cX5_kinds 21 = .ok (.iload 4, 2) := by decide +kernel
theorem dX5_kinds_23 : decode cX5_kinds 23 = .ok (.ireturn, 1) := by decide +kernel
theorem dX5_kinds_24 : decode cX5_kinds 24 = .ok (.iconst 0, 1) := by decide +kernel
theorem dX5_kinds_25 : decode cX5_kinds 25 = .ok (.istore 5, 2) := by decide +kernel
theorem dX5_kinds_27 : decode cX5_kinds 27 = .ok (.iconst 0, 1) := by decide +kernel
theorem dX5_kinds_28 : decode cX5_kinds 28 = .ok (.istore 6, 2) := by decide +kernel
theorem dX5_kinds_30 : decode cX5_kinds 30 = .ok (.iload 6, 2) := by decide +kernel
theorem dX5_kinds_32 : decode cX5_kinds 32 = .ok (.iload_n 3, 1) := by decide +kernel
theorem dX5_kinds_33 : decode cX5_kinds 33 = .ok (.ifCond .ne 8, 3) := by decide +kernel
theorem dX5_kinds_36 : decode cX5_kinds 36 = .ok (.bipush 6, 2) := by decide +kernel
theorem dX5_kinds_38 : decode cX5_kinds 38 = .ok (.goto 5, 3) := by decide +kernel
theorem dX5_kinds_41 : decode cX5_kinds 41 = .ok (.bipush 10, 2) := by decide +kernel
theorem dX5_kinds_43 : decode cX5_kinds 43 = .ok (.if_icmp .ge 67, 3) := by decide +kernel
theorem dX5_kinds_46 : decode cX5_kinds 46 = .ok (.aload_n 0, 1) := by decide +kernel
theorem dX5_kinds_47 : decode cX5_kinds 47 = .ok (.getfield 51, 3) := by decide +kernel
theorem dX5_kinds_50 : decode cX5_kinds 50 = .ok (.aload_n 0, 1) := by decide +kernel
theorem dX5_kinds_51 : decode cX5_kinds 51 = .ok (.getfield 44, 3) := by decide +kernel
theorem dX5_kinds_54 : decode cX5_kinds 54 = .ok (.invokevirtual 184, 3) := by decide +kernel
theorem dX5_kinds_57 : decode cX5_kinds 57 = .ok (.iload_n 3, 1) := by decide +kernel
theorem dX5_kinds_58 : decode cX5_kinds 58 = .ok (.ifCond .ne 13, 3) := by decide +kernel
theorem dX5_kinds_61 : decode cX5_kinds 61 = .ok (.aload_n 0, 1) := by decide +kernel
theorem dX5_kinds_62 : decode cX5_kinds 62 = .ok (.getfield 51, 3) := by decide +kernel
theorem dX5_kinds_65 : decode cX5_kinds 65 = .ok (.getfield 138, 3) := by decide +kernel
theorem dX5_kinds_68 : decode cX5_kinds 68 = .ok (.goto 10, 3) := by decide +kernel
theorem dX5_kinds_71 : decode cX5_kinds 71 = .ok (.aload_n 0, 1) := by decide +kernel
theorem dX5_kinds_72 : decode cX5_kinds 72 = .ok (.getfield 51, 3) := by decide +kernel
theorem dX5_kinds_75 : decode cX5_kinds 75 = .ok (.getfield 141, 3) := by decide +kernel
theorem dX5_kinds_78 : decode cX5_kinds 78 = .ok (.iload_n 2, 1) := by decide +kernel
theorem dX5_kinds_79 : decode cX5_kinds 79 = .ok (.iload 6, 2) := by decide +kernel
theorem dX5_kinds_81 : decode cX5_kinds 81 = .ok (.iastore, 1) := by decide +kernel
theorem dX5_kinds_82 : decode cX5_kinds 82 = .ok (.iload 5, 2) := by decide +kernel
theorem dX5_kinds_84 : decode cX5_kinds 84 = .ok (.aload_n 0, 1) := by decide +kernel
theorem dX5_kinds_85 : decode cX5_kinds 85 = .ok (.iload_n 1, 1) := by decide +kernel
theorem dX5_kinds_86 : decode cX5_kinds 86 = .ok (.invokevirtual 233, 3) := by decide +kernel
theorem dX5_kinds_89 : decode cX5_kinds 89 = .ok (.iconst (-1), 1) := by decide +kernel
theorem dX5_kinds_90 : decode cX5_kinds 90 = .ok (.if_icmp .ne 10, 3) := by decide +kernel
theorem dX5_kinds_93 : decode cX5_kinds 93 = .ok (.iconst 1, 1) := by decide +kernel
theorem dX5_kinds_94 : decode cX5_kinds 94 = .ok (.iload 6, 2) := by decide +kernel
theorem dX5_kinds_96 : decode cX5_kinds 96 = .ok (.ishl, 1) := by decide +kernel
theorem dX5_kinds_97 : decode cX5_kinds 97 = .ok (.goto 4, 3) := by decide +kernel
theorem dX5_kinds_100 : decode cX5_kinds 100 = .ok (.iconst 0, 1) := by decide +kernel
theorem dX5_kinds_101 : decode cX5_kinds 101 = .ok (.ior, 1) := by decide +kernel
theorem dX5_kinds_102 : decode cX5_kinds 102 = .ok (.istore 5, 2) := by decide +kernel
theorem dX5_kinds_104 : decode cX5_kinds 104 = .ok (.iinc 6 1, 3) := by decide +kernel
theorem dX5_kinds_107 : decode cX5_kinds 107 = .ok (.goto (-77), 3) := by decide +kernel
theorem dX5_kinds_110 : decode cX5_kinds 110 = .ok (.iload 5, 2) := by decide +kernel
theorem dX5_kinds_112 : decode cX5_kinds 112 = .ok (.ireturn, 1) := by decide +kernel
set_option maxRecDepth 20000 in
theorem ggX5_faces_X0_hasWitness : GoodIn wsX5_faces wsX0_hasWitness := goodIn_r _ [7, 8, 9, 10, 11, 127, 128, 129, 130, 131, 132, 133, 134, 135, 136, 137, 138, 139, 140, 141] rfl (by decide +kernel)
set_option maxRecDepth 20000 in
theorem gX5_faces_X0_hasWitness : GoodIn wsX5_faces (wsV RX5 118 RX0 yX0_hasWitness wsX0_hasWitness) := goodIn_app (goodIn_of _ (by decide +kernel)) ggX5_faces_X0_hasWitness
set_option maxRecDepth 20000 in
theorem ggX5_faces_X5_refusalOfFitting : GoodIn wsX5_faces wsX5_refusalOfFitting := goodIn_r _ [15, 16, 17, 18, 10, 19, 20, 21, 9, 11, 22, 23, 24, 25, 26, 27, 116, 117, 118, 119, 120, 121, 122, 123, 124, 125, 126, 142, 143, 144] rfl (by decide +kernel)
set_option maxRecDepth 20000 in
theorem gX5_faces_X5_refusalOfFitting : GoodIn wsX5_faces (wsV RX5 236 RX5 yX5_refusalOfFitting wsX5_refusalOfFitting) := goodIn_app (goodIn_of _ (by decide +kernel)) ggX5_faces_X5_refusalOfFitting
set_option maxRecDepth 20000 in
theorem ggX5_faces_X5_fitting : GoodIn wsX5_faces wsX5_fitting := goodIn_r _ [31, 2, 1, 32, 33, 34, 6, 35, 36, 37, 38, 39, 40, 41, 42, 43, 44, 45, 46, 47, 48, 49, 50, 51, 8, 52, 53, 54, 55, 10, 56, 20, 57, 58, 59, 60, 61, 62, 63, 64, 65, 66, 67, 68, 69, 70, 71, 72, 73, 74, 75, 76, 77, 78, 79, 80, 81, 82, 83, 84, 85, 86, 87, 88, 89, 90, 91, 92, 93, 94, 95, 96, 97, 98, 99, 100, 101, 102, 103, 104, 105, 106, 107, 108, 109, 110, 111, 112, 113, 114, 115, 116, 117, 118, 119, 120, 121, 122, 123, 124, 125, 126, 127, 128, 129, 130, 131, 132, 133, 134, 135, 136, 137, 138, 139, 140, 141, 142, 143, 144, 145, 146, 147, 148] rfl (by decide +kernel)
set_option maxRecDepth 20000 in
theorem gX5_faces_X5_fitting : GoodIn wsX5_faces (wsV RX5 240 RX5 yX5_fitting wsX5_fitting) := goodIn_app (goodIn_of _ (by decide +kernel)) ggX5_faces_X5_fitting

theorem dX4_init_0 : decode cX4_init 0 = .ok (.aload_n 0, 1) := by decide +kernel
theorem dX4_init_1 : decode cX4_init 1 = .ok (.invokespecial 3, 3) := by decide +kernel
theorem dX4_init_4 : decode cX4_init 4 = .ok (.aload_n 0, 1) := by decide +kernel
theorem dX4_init_5 : decode cX4_init 5 = .ok (.sipush 160, 3) := by decide +kernel
theorem dX4_init_8 : decode cX4_init 8 = .ok (.newarray .int, 2) := by decide +kernel
theorem dX4_init_10 : decode cX4_init 10 = .ok (.putfield 9, 3) := by decide +kernel
theorem dX4_init_13 : decode cX4_init 13 = .ok (.aload_n 0, 1) := by decide +kernel
theorem dX4_init_14 : decode cX4_init 14 = .ok (.sipush 160, 3) := by decide +kernel
theorem dX4_init_17 : decode cX4_init 17 = .ok (.newarray .int, 2) := by decide +kernel
theorem dX4_init_19 : decode cX4_init 19 = .ok (.putfield 15, 3) := by decide +kernel
theorem dX4_init_22 : decode cX4_init 22 = .ok (.aload_n 0, 1) := by decide +kernel
theorem dX4_init_23 : decode cX4_init 23 = .ok (.iconst 3, 1) := by decide +kernel
theorem dX4_init_24 : decode cX4_init 24 = .ok (.newarray .int, 2) := by decide +kernel
theorem dX4_init_26 : decode cX4_init 26 = .ok (.putfield 18, 3) := by decide +kernel
theorem dX4_init_29 : decode cX4_init 29 = .ok (.return_, 1) := by decide +kernel
theorem dX4_append_0 : decode cX4_append 0 = .ok (.aload_n 0, 1) := by decide +kernel
theorem dX4_append_1 : decode cX4_append 1 = .ok (.getfield 21, 3) := by decide +kernel
theorem dX4_append_4 : decode cX4_append 4 = .ok (.aload_n 0, 1) := by decide +kernel
theorem dX4_append_5 : decode cX4_append 5 = .ok (.getfield 9, 3) := by decide +kernel
theorem dX4_append_8 : decode cX4_append 8 = .ok (.arraylength, 1) := by decide +kernel
theorem dX4_append_9 : decode cX4_append 9 = .ok (.if_icmp .ge 23, 3) := by decide +kernel
theorem dX4_append_12 : decode cX4_append 12 = .ok (.aload_n 0, 1) := by decide +kernel
theorem dX4_append_13 : decode cX4_append 13 = .ok (.getfield 9, 3) := by decide +kernel
theorem dX4_append_16 : decode cX4_append 16 = .ok (.aload_n 0, 1) := by decide +kernel
theorem dX4_append_17 : decode cX4_append 17 = .ok (.getfield 21, 3) := by decide +kernel
theorem dX4_append_20 : decode cX4_append 20 = .ok (.iload_n 1, 1) := by decide +kernel
theorem dX4_append_21 : decode cX4_append 21 = .ok (.iastore, 1) := by decide +kernel
theorem dX4_append_22 : decode cX4_append 22 = .ok (.aload_n 0, 1) := by decide +kernel
theorem dX4_append_23 : decode cX4_append 23 = .ok (.dup, 1) := by decide +kernel
theorem dX4_append_24 : decode cX4_append 24 = .ok (.getfield 21, 3) := by decide +kernel
theorem dX4_append_27 : decode cX4_append 27 = .ok (.iconst 1, 1) := by decide +kernel
theorem dX4_append_28 : decode cX4_append 28 = .ok (.iadd, 1) := by decide +kernel
theorem dX4_append_29 : decode cX4_append 29 = .ok (.putfield 21, 3) := by decide +kernel
theorem dX4_append_32 : decode cX4_append 32 = .ok (.return_, 1) := by decide +kernel
set_option maxRecDepth 20000 in
theorem ggX4_fault_X4_advance : GoodIn wsX4_fault wsX4_advance := goodIn_r _ [10, 1, 11, 12, 5, 4, 13, 14, 9, 15, 16, 17, 18, 19, 20, 21, 22, 23, 24, 25, 26, 27, 28, 29, 30, 31, 32, 33, 34, 35, 36, 37, 38, 39, 40, 41, 42, 43, 44, 45, 46, 47, 48, 49, 50, 51, 52, 53, 54, 55, 56, 57, 58, 59, 60, 61, 62, 63, 64, 65, 66, 67, 68, 69, 70, 71, 72, 73, 74, 75, 76, 77, 78, 79, 80, 81, 82, 83, 84, 85, 86, 87, 88, 89, 90, 91, 92, 93, 94, 95, 96, 97, 98, 99, 100, 101, 102, 103, 104, 105, 106, 107, 108, 109, 110, 111, 112, 113, 114, 115, 116, 117, 118, 119, 120, 121, 122, 123, 124, 125, 126, 127, 128, 129, 130, 131, 132, 133, 134, 135, 136, 137, 138, 139, 140, 141, 183, 184, 185, 186, 187, 188, 189, 190, 191] rfl (by decide +kernel)
set_option maxRecDepth 20000 in
theorem gX4_fault_X4_advance : GoodIn wsX4_fault (wsV RX4 31 RX4 yX4_advance wsX4_advance) := goodIn_app (goodIn_of _ (by decide +kernel)) ggX4_fault_X4_advance
set_option maxRecDepth 20000 in
theorem ggX4_fault_X4_isTaken : GoodIn wsX4_fault wsX4_isTaken := goodIn_r _ [145, 4, 6, 7, 8, 9, 10, 1, 11, 12, 5, 13, 14, 15, 16, 17, 18, 19, 20, 21, 22, 23, 24, 25, 26, 27, 28, 29, 30, 31, 32, 33, 34, 35, 36, 37, 38, 39, 40, 41, 42, 43, 44, 45, 46, 47, 48, 49, 50, 51, 52, 53, 54, 55, 56, 57, 58, 59, 60, 61, 62, 63, 64, 65, 66, 67, 68, 69, 70, 71, 72, 73, 74, 75, 76, 77, 78, 79, 80, 81, 82, 83, 84, 85, 86, 87, 88, 89, 90, 91, 92, 93, 94, 95, 96, 97, 98, 99, 100, 101, 102, 103, 104, 105, 106, 107, 108, 109, 110, 111, 112, 113, 114, 115, 116, 117, 118, 119, 120, 121, 122, 123, 124, 125, 126, 127, 128, 129, 130, 131, 132, 133, 134, 135, 136, 137, 138, 139, 140, 141, 183, 184, 185, 186, 187, 188, 189, 190, 191] rfl (by decide +kernel)
set_option maxRecDepth 20000 in
theorem gX4_fault_X4_isTaken : GoodIn wsX4_fault (wsV RX4 34 RX4 yX4_isTaken wsX4_isTaken) := goodIn_app (goodIn_of _ (by decide +kernel)) ggX4_fault_X4_isTaken
set_option maxRecDepth 20000 in
theorem ggX4_fault_X4_isEither : GoodIn wsX4_fault wsX4_isEither := goodIn_r _ [149, 4, 150, 151, 152, 9, 6, 7, 8, 10, 1, 11, 12, 5, 13, 14, 15, 16, 17, 18, 19, 20, 21, 22, 23, 24, 25, 26, 27, 28, 29, 30, 31, 32, 33, 34, 35, 36, 37, 38, 39, 40, 41, 42, 43, 44, 45, 46, 47, 48, 49, 50, 51, 52, 53, 54, 55, 56, 57, 58, 59, 60, 61, 62, 63, 64, 65, 66, 67, 68, 69, 70, 71, 72, 73, 74, 75, 76, 77, 78, 79, 80, 81, 82, 83, 84, 85, 86, 87, 88, 89, 90, 91, 92, 93, 94, 95, 96, 97, 98, 99, 100, 101, 102, 103, 104, 105, 106, 107, 108, 109, 110, 111, 112, 113, 114, 115, 116, 117, 118, 119, 120, 121, 122, 123, 124, 125, 126, 127, 128, 129, 130, 131, 132, 133, 134, 135, 136, 137, 138, 139, 140, 141, 153, 154, 155, 156, 2, 157, 158, 159, 160, 161, 162, 163, 164, 165, 166, 167, 168, 169, 170, 171, 172, 173, 174, 175, 176, 177, 178, 179, 180, 181, 182, 142, 143, 144, 145, 146, 147, 148, 183, 184, 185, 186, 187, 188, 189, 190, 191] rfl (by decide +kernel)
set_option maxRecDepth 20000 in
theorem gX4_fault_X4_isEither : GoodIn wsX4_fault (wsV RX4 38 RX4 yX4_isEither wsX4_isEither) := goodIn_app (goodIn_of _ (by decide +kernel)) ggX4_fault_X4_isEither
theorem dX4_fault_0 : decode cX4_fault 0 = .ok (.aload_n 0, 1) := by decide +kernel
theorem dX4_fault_1 : decode cX4_fault 1 = .ok (.iconst 0, 1) := by decide +kernel
theorem dX4_fault_2 : decode cX4_fault 2 = .ok (.putfield 25, 3) := by decide +kernel
theorem dX4_fault_5 : decode cX4_fault 5 = .ok (.aload_n 0, 1) := by decide +kernel
theorem dX4_fault_6 : decode cX4_fault 6 = .ok (.iconst 0, 1) := by decide +kernel
theorem dX4_fault_7 : decode cX4_fault 7 = .ok (.putfield 28, 3) := by decide +kernel
theorem dX4_fault_10 : decode cX4_fault 10 = .ok (.aload_n 0, 1) := by decide +kernel
theorem dX4_fault_11 : decode cX4_fault 11 = .ok (.invokevirtual 31, 3) := by decide +kernel
theorem dX4_fault_14 : decode cX4_fault 14 = .ok (.iconst 1, 1) := by decide +kernel
theorem dX4_fault_15 : decode cX4_fault 15 = .ok (.istore_n 1, 1) := by decide +kernel
theorem dX4_fault_16 : decode cX4_fault 16 = .ok (.iconst 0, 1) := by decide +kernel
theorem dX4_fault_17 : decode cX4_fault 17 = .ok (.istore_n 2, 1) := by decide +kernel
theorem dX4_fault_18 : decode cX4_fault 18 = .ok (.iload_n 2, 1) := by decide +kernel
theorem dX4_fault_19 : decode cX4_fault 19 = .ok (.iconst 3, 1) := by decide +kernel
theorem dX4_fault_20 : decode cX4_fault 20 = .ok (.if_icmp .ge 56, 3) := by decide +kernel
theorem dX4_fault_23 : decode cX4_fault 23 = .ok (.iload_n 1, 1) := by decide +kernel
theorem dX4_fault_24 : decode cX4_fault 24 = .ok (.ifCond .eq 52, 3) := by decide +kernel
theorem dX4_fault_27 : decode cX4_fault 27 = .ok (.aload_n 0, 1) := by decide +kernel
theorem dX4_fault_28 : decode cX4_fault 28 = .ok (.getfield 18, 3) := by decide +kernel
theorem dX4_fault_31 : decode cX4_fault 31 = .ok (.iload_n 2, 1) := by decide +kernel
theorem dX4_fault_32 : decode cX4_fault 32 = .ok (.aload_n 0, 1) := by decide +kernel
theorem dX4_fault_33 : decode cX4_fault 33 = .ok (.getfield 28, 3) := by decide +kernel
theorem dX4_fault_36 : decode cX4_fault 36 = .ok (.iastore, 1) := by decide +kernel
theorem dX4_fault_37 : decode cX4_fault 37 = .ok (.aload_n 0, 1) := by decide +kernel
theorem dX4_fault_38 : decode cX4_fault 38 = .ok (.iconst 4, 1) := by decide +kernel
theorem dX4_fault_39 : decode cX4_fault 39 = .ok (.iload_n 2, 1) := by decide +kernel
theorem dX4_fault_40 : decode cX4_fault 40 = .ok (.iadd, 1) := by decide +kernel
theorem dX4_fault_41 : decode cX4_fault 41 = .ok (.invokevirtual 34, 3) := by decide +kernel
theorem dX4_fault_44 : decode cX4_fault 44 = .ok (.ifCond .eq 24, 3) := by decide +kernel
theorem dX4_fault_47 : decode cX4_fault 47 = .ok (.aload_n 0, 1) := by decide +kernel
theorem dX4_fault_48 : decode cX4_fault 48 = .ok (.iconst 0, 1) := by decide +kernel
theorem dX4_fault_49 : decode cX4_fault 49 = .ok (.invokevirtual 38, 3) := by decide +kernel
theorem dX4_fault_52 : decode cX4_fault 52 = .ok (.ifCond .eq 16, 3) := by decide +kernel
theorem dX4_fault_55 : decode cX4_fault 55 = .ok (.aload_n 0, 1) := by decide +kernel
theorem dX4_fault_56 : decode cX4_fault 56 = .ok (.bipush 59, 2) := by decide +kernel
theorem dX4_fault_58 : decode cX4_fault 58 = .ok (.invokevirtual 34, 3) := by decide +kernel
theorem dX4_fault_61 : decode cX4_fault 61 = .ok (.ifCond .eq 7, 3) := by decide +kernel
theorem dX4_fault_64 : decode cX4_fault 64 = .ok (.iconst 1, 1) := by decide +kernel
theorem dX4_fault_65 : decode cX4_fault 65 = .ok (.goto 4, 3) := by decide +kernel
theorem dX4_fault_68 : decode cX4_fault 68 = .ok (.iconst 0, 1) := by decide +kernel
theorem dX4_fault_69 : decode cX4_fault 69 = .ok (.istore_n 1, 1) := by decide +kernel
theorem dX4_fault_70 : decode cX4_fault 70 = .ok (.iinc 2 1, 3) := by decide +kernel
theorem dX4_fault_73 : decode cX4_fault 73 = .ok (.goto (-55), 3) := by decide +kernel
theorem dX4_fault_76 : decode cX4_fault 76 = .ok (.iload_n 1, 1) := by decide +kernel
theorem dX4_fault_77 : decode cX4_fault 77 = .ok (.ifCond .eq 14, 3) := by decide +kernel
theorem dX4_fault_80 : decode cX4_fault 80 = .ok (.aload_n 0, 1) := by decide +kernel
theorem dX4_fault_81 : decode cX4_fault 81 = .ok (.getfield 41, 3) := by decide +kernel
theorem dX4_fault_84 : decode cX4_fault 84 = .ok (.ifCond .ne 7, 3) := by decide +kernel
theorem dX4_fault_87 : decode cX4_fault 87 = .ok (.iconst (-1), 1) := by decide +kernel
theorem dX4_fault_88 : decode cX4_fault 88 = .ok (.goto 7, 3) := by decide +kernel
theorem dX4_fault_91 : decode cX4_fault 91 = .ok (.aload_n 0, 1) := by decide +kernel
theorem dX4_fault_92 : decode cX4_fault 92 = .ok (.getfield 44, 3) := by decide +kernel
theorem dX4_fault_95 : decode cX4_fault 95 = .ok (.ireturn, 1) := by decide +kernel
set_option maxRecDepth 20000 in
theorem ggX4_lawRead_J7_copyOf_59c91 : GoodIn wsX4_lawRead wsJ7_copyOf_59c91 := goodIn_r _ [10, 11, 12, 13, 14, 15, 16, 17, 18, 19, 20, 21, 22, 23, 24, 25] rfl (by decide +kernel)
set_option maxRecDepth 20000 in
theorem gX4_lawRead_J7_copyOf_59c91 : GoodIn wsX4_lawRead (va_wsS RX4 49 yJ7_copyOf_59c91 wsJ7_copyOf_59c91) := goodIn_app (goodIn_of _ (by decide +kernel)) ggX4_lawRead_J7_copyOf_59c91
set_option maxRecDepth 20000 in
theorem ggX4_lawRead_X2_init : GoodIn wsX4_lawRead wsX2_init := goodIn_r _ [28, 29, 30, 31, 32, 33, 34, 35, 36, 37, 38, 39] rfl (by decide +kernel)
set_option maxRecDepth 20000 in
theorem gX4_lawRead_X2_init : GoodIn wsX4_lawRead (wsX2_init) := ggX4_lawRead_X2_init
theorem dX4_lawRead_0 : decode cX4_lawRead 0 = .ok (.new 47, 3) := by decide +kernel
theorem dX4_lawRead_3 : decode cX4_lawRead 3 = .ok (.dup, 1) := by decide +kernel
theorem dX4_lawRead_4 : decode cX4_lawRead 4 = .ok (.iload_n 1, 1) := by decide +kernel
theorem dX4_lawRead_5 : decode cX4_lawRead 5 = .ok (.aload_n 0, 1) := by decide +kernel
theorem dX4_lawRead_6 : decode cX4_lawRead 6 = .ok (.getfield 15, 3) := by decide +kernel
theorem dX4_lawRead_9 : decode cX4_lawRead 9 = .ok (.aload_n 0, 1) := by decide +kernel
theorem dX4_lawRead_10 : decode cX4_lawRead 10 = .ok (.getfield 28, 3) := by decide +kernel
theorem dX4_lawRead_13 : decode cX4_lawRead 13 = .ok (.invokestatic 49, 3) := by decide +kernel
theorem dX4_lawRead_16 : decode cX4_lawRead 16 = .ok (.aload_n 0, 1) := by decide +kernel
theorem dX4_lawRead_17 : decode cX4_lawRead 17 = .ok (.getfield 18, 3) := by decide +kernel
theorem dX4_lawRead_20 : decode cX4_lawRead 20 = .ok (.iconst 1, 1) := by decide +kernel
theorem dX4_lawRead_21 : decode cX4_lawRead 21 = .ok (.iaload, 1) := by decide +kernel
theorem dX4_lawRead_22 : decode cX4_lawRead 22 = .ok (.aload_n 0, 1) := by decide +kernel
theorem dX4_lawRead_23 : decode cX4_lawRead 23 = .ok (.getfield 18, 3) := by decide +kernel
theorem dX4_lawRead_26 : decode cX4_lawRead 26 = .ok (.iconst 2, 1) := by decide +kernel
theorem dX4_lawRead_27 : decode cX4_lawRead 27 = .ok (.iaload, 1) := by decide +kernel
theorem dX4_lawRead_28 : decode cX4_lawRead 28 = .ok (.invokespecial 55, 3) := by decide +kernel
theorem dX4_lawRead_31 : decode cX4_lawRead 31 = .ok (.areturn, 1) := by decide +kernel
set_option maxRecDepth 20000 in
theorem ggX4_isTaken_X4_advance : GoodIn wsX4_isTaken wsX4_advance := goodIn_r _ [6, 7, 8, 9, 10, 1, 11, 12, 5, 13, 14, 15, 16, 17, 18, 19, 20, 21, 22, 23, 24, 25, 26, 27, 28, 29, 30, 31, 32, 33, 34, 35, 36, 37, 38, 39, 40, 41, 42, 43, 44, 45, 46, 47, 48, 49, 50, 51, 52, 53, 54, 55, 56, 57, 58, 59, 60, 61, 62, 63, 64, 65, 66, 67, 68, 69, 70, 71, 72, 73, 74, 75, 76, 77, 78, 79, 80, 81, 82, 83, 84, 85, 86, 87, 88, 89, 90, 91, 92, 93, 94, 95, 96, 97, 98, 99, 100, 101, 102, 103, 104, 105, 106, 107, 108, 109, 110, 111, 112, 113, 114, 115, 116, 117, 118, 119, 120, 121, 122, 123, 124, 125, 126, 127, 128, 129, 130, 131, 132, 133, 134, 135, 136, 137, 138, 139, 140, 141, 142, 143, 144, 145, 146, 147, 148] rfl (by decide +kernel)
set_option maxRecDepth 20000 in
theorem gX4_isTaken_X4_advance : GoodIn wsX4_isTaken (wsV RX4 31 RX4 yX4_advance wsX4_advance) := goodIn_app (goodIn_of _ (by decide +kernel)) ggX4_isTaken_X4_advance
theorem dX4_isTaken_0 : decode cX4_isTaken 0 = .ok (.aload_n 0, 1) := by decide +kernel
theorem dX4_isTaken_1 : decode cX4_isTaken 1 = .ok (.getfield 41, 3) := by decide +kernel
theorem dX4_isTaken_4 : decode cX4_isTaken 4 = .ok (.iload_n 1, 1) := by decide +kernel
theorem dX4_isTaken_5 : decode cX4_isTaken 5 = .ok (.if_icmp .eq 5, 3) := by decide +kernel
theorem dX4_isTaken_8 : decode cX4_isTaken 8 = .ok (.iconst 0, 1) := by decide +kernel
theorem dX4_isTaken_9 : decode cX4_isTaken 9 = .ok (.ireturn, 1) := by decide +kernel
theorem dX4_isTaken_10 : decode cX4_isTaken 10 = .ok (.aload_n 0, 1) := by decide +kernel
theorem dX4_isTaken_11 : decode cX4_isTaken 11 = .ok (.invokevirtual 31, 3) := by decide +kernel
theorem dX4_isTaken_14 : decode cX4_isTaken 14 = .ok (.iconst 1, 1) := by decide +kernel
theorem dX4_isTaken_15 : decode cX4_isTaken 15 = .ok (.ireturn, 1) := by decide +kernel
set_option maxRecDepth 20000 in
theorem ggX4_isEither_X4_isBoth : GoodIn wsX4_isEither wsX4_isBoth := goodIn_r _ [149, 1, 150, 151, 152, 5, 6, 7, 8, 9, 10, 11, 12, 13, 14, 15, 16, 17, 18, 19, 20, 21, 22, 23, 24, 25, 26, 27, 28, 29, 30, 31, 32, 33, 34, 35, 36, 37, 38, 39, 40, 41, 42, 43, 44, 45, 46, 47, 48, 49, 50, 51, 52, 53, 54, 55, 56, 57, 58, 59, 60, 61, 62, 63, 64, 65, 66, 67, 68, 69, 70, 71, 72, 73, 74, 75, 76, 77, 78, 79, 80, 81, 82, 83, 84, 85, 86, 87, 88, 89, 90, 91, 92, 93, 94, 95, 96, 97, 98, 99, 100, 101, 102, 103, 104, 105, 106, 107, 108, 109, 110, 111, 112, 113, 114, 115, 116, 117, 118, 119, 120, 121, 122, 123, 124, 125, 126, 127, 128, 129, 130, 131, 132, 133, 134, 135, 136, 137, 138, 139, 140, 141, 142, 143, 144, 145, 146, 147, 148, 153, 154, 155, 156, 0, 2, 3, 4, 157, 158, 159, 160, 161, 162, 163, 164, 165, 166, 167, 168, 169, 170, 171, 172, 173, 174, 175, 176, 177, 178, 179, 180, 181, 182, 183, 184, 185, 186, 187, 188, 189] rfl (by decide +kernel)
set_option maxRecDepth 20000 in
theorem gX4_isEither_X4_isBoth : GoodIn wsX4_isEither (wsV RX4 58 RX4 yX4_isBoth wsX4_isBoth) := goodIn_app (goodIn_of _ (by decide +kernel)) ggX4_isEither_X4_isBoth
set_option maxRecDepth 20000 in
theorem ggX4_isEither_X4_advance : GoodIn wsX4_isEither wsX4_advance := goodIn_r _ [9, 10, 11, 12, 13, 1, 14, 15, 5, 16, 17, 18, 19, 20, 21, 22, 23, 24, 25, 26, 27, 28, 29, 30, 31, 32, 33, 34, 35, 36, 37, 38, 39, 40, 41, 42, 43, 44, 45, 46, 47, 48, 49, 50, 51, 52, 53, 54, 55, 56, 57, 58, 59, 60, 61, 62, 63, 64, 65, 66, 67, 68, 69, 70, 71, 72, 73, 74, 75, 76, 77, 78, 79, 80, 81, 82, 83, 84, 85, 86, 87, 88, 89, 90, 91, 92, 93, 94, 95, 96, 97, 98, 99, 100, 101, 102, 103, 104, 105, 106, 107, 108, 109, 110, 111, 112, 113, 114, 115, 116, 117, 118, 119, 120, 121, 122, 123, 124, 125, 126, 127, 128, 129, 130, 131, 132, 133, 134, 135, 136, 137, 138, 139, 140, 141, 142, 181, 182, 183, 184, 185, 186, 187, 188, 189] rfl (by decide +kernel)
set_option maxRecDepth 20000 in
theorem gX4_isEither_X4_advance : GoodIn wsX4_isEither (wsV RX4 31 RX4 yX4_advance wsX4_advance) := goodIn_app (goodIn_of _ (by decide +kernel)) ggX4_isEither_X4_advance
set_option maxRecDepth 20000 in
theorem ggX4_isEither_X4_isNoted : GoodIn wsX4_isEither wsX4_isNoted := goodIn_r _ [146, 147, 148, 181, 182, 183, 184, 185, 186, 187, 188, 189] rfl (by decide +kernel)
set_option maxRecDepth 20000 in
theorem gX4_isEither_X4_isNoted : GoodIn wsX4_isEither (wsV RX4 61 RX4 yX4_isNoted wsX4_isNoted) := goodIn_app (goodIn_of _ (by decide +kernel)) ggX4_isEither_X4_isNoted
theorem dX4_isEither_0 : decode cX4_isEither 0 = .ok (.aload_n 0, 1) := by decide +kernel
theorem dX4_isEither_1 : decode cX4_isEither 1 = .ok (.iload_n 1, 1) := by decide +kernel
theorem dX4_isEither_2 : decode cX4_isEither 2 = .ok (.invokevirtual 58, 3) := by decide +kernel
theorem dX4_isEither_5 : decode cX4_isEither 5 = .ok (.istore_n 2, 1) := by decide +kernel
theorem dX4_isEither_6 : decode cX4_isEither 6 = .ok (.iconst 0, 1) := by decide +kernel
theorem dX4_isEither_7 : decode cX4_isEither 7 = .ok (.istore_n 3, 1) := by decide +kernel
theorem dX4_isEither_8 : decode cX4_isEither 8 = .ok (.iload_n 3, 1) := by decide +kernel
theorem dX4_isEither_9 : decode cX4_isEither 9 = .ok (.sipush 160, 3) := by decide +kernel
theorem dX4_isEither_12 : decode cX4_isEither 12 = .ok (.if_icmp .ge 50, 3) := by decide +kernel
theorem dX4_isEither_15 : decode cX4_isEither 15 = .ok (.iload_n 2, 1) := by decide +kernel
theorem dX4_isEither_16 : decode cX4_isEither 16 = .ok (.ifCond .eq 46, 3) := by decide +kernel
theorem dX4_isEither_19 : decode cX4_isEither 19 = .ok (.aload_n 0, 1) := by decide +kernel
theorem dX4_isEither_20 : decode cX4_isEither 20 = .ok (.getfield 41, 3) := by decide +kernel
theorem dX4_isEither_23 : decode cX4_isEither 23 = .ok (.bipush 8, 2) := by decide +kernel
theorem dX4_isEither_25 : decode cX4_isEither 25 = .ok (.if_icmp .ne 37, 3) := by decide +kernel
theorem dX4_isEither_28 : decode cX4_isEither 28 = .ok (.aload_n 0, 1) := by decide +kernel
theorem dX4_isEither_29 : decode cX4_isEither 29 = .ok (.invokevirtual 31, 3) := by decide +kernel
theorem dX4_isEither_32 : decode cX4_isEither 32 = .ok (.aload_n 0, 1) := by decide +kernel
theorem dX4_isEither_33 : decode cX4_isEither 33 = .ok (.iload_n 1, 1) := by decide +kernel
theorem dX4_isEither_34 : decode cX4_isEither 34 = .ok (.invokevirtual 58, 3) := by decide +kernel
theorem dX4_isEither_37 : decode cX4_isEither 37 = .ok (.ifCond .eq 17, 3) := by decide +kernel
theorem dX4_isEither_40 : decode cX4_isEither 40 = .ok (.aload_n 0, 1) := by decide +kernel
theorem dX4_isEither_41 : decode cX4_isEither 41 = .ok (.bipush (-15), 2) := by decide +kernel
theorem dX4_isEither_43 : decode cX4_isEither 43 = .ok (.iconst 1, 1) := by decide +kernel
theorem dX4_isEither_44 : decode cX4_isEither 44 = .ok (.invokevirtual 61, 3) := by decide +kernel
theorem dX4_isEither_47 : decode cX4_isEither 47 = .ok (.ifCond .eq 7, 3) := by decide +kernel
theorem dX4_isEither_50 : decode cX4_isEither 50 = .ok (.iconst 1, 1) := by decide +kernel
theorem dX4_isEither_51 : decode cX4_isEither 51 = .ok (.goto 4, 3) := by decide +kernel
theorem dX4_isEither_54 : decode cX4_isEither 54 = .ok (.iconst 0, 1) := by decide +kernel
theorem dX4_isEither_55 : decode cX4_isEither 55 = .ok (.istore_n 2, 1) := by decide +kernel
theorem dX4_isEither_56 : decode cX4_isEither 56 = .ok (.iinc 3 1, 3) := by decide +kernel
theorem dX4_isEither_59 : decode cX4_isEither 59 = .ok (.goto (-51), 3) := by decide +kernel
theorem dX4_isEither_62 : decode cX4_isEither 62 = .ok (.iload_n 2, 1) := by decide +kernel
theorem dX4_isEither_63 : decode cX4_isEither 63 = .ok (.ireturn, 1) := by decide +kernel
set_option maxRecDepth 20000 in
theorem ggX4_isBoth_X4_isNot : GoodIn wsX4_isBoth wsX4_isNot := goodIn_r _ [157, 1, 6, 7, 8, 5, 9, 10, 11, 12, 13, 14, 15, 16, 17, 18, 19, 20, 21, 22, 23, 24, 25, 26, 27, 28, 29, 30, 31, 32, 33, 34, 35, 36, 37, 38, 39, 40, 41, 42, 43, 44, 45, 46, 47, 48, 49, 50, 51, 52, 53, 54, 55, 56, 57, 58, 59, 60, 61, 62, 63, 64, 65, 66, 67, 68, 69, 70, 71, 72, 73, 74, 75, 76, 77, 78, 79, 80, 81, 82, 83, 84, 85, 86, 87, 88, 89, 90, 91, 92, 93, 94, 95, 96, 97, 98, 99, 100, 101, 102, 103, 104, 105, 106, 107, 108, 109, 110, 111, 112, 113, 114, 115, 116, 117, 118, 119, 120, 121, 122, 123, 124, 125, 126, 127, 128, 129, 130, 131, 132, 133, 134, 135, 136, 137, 138, 139, 140, 141, 142, 158, 159, 160, 143, 144, 145, 146, 147, 148, 0, 2, 3, 4, 149, 150, 151, 152, 153, 154, 155, 156, 161, 162, 163, 164, 165, 166, 167, 168, 169, 170, 171, 172, 173, 174, 175, 176, 177, 178, 179, 180, 181, 182, 183, 184, 185, 186, 187, 188, 189] rfl (by decide +kernel)
set_option maxRecDepth 20000 in
theorem gX4_isBoth_X4_isNot : GoodIn wsX4_isBoth (wsV RX4 65 RX4 yX4_isNot wsX4_isNot) := goodIn_app (goodIn_of _ (by decide +kernel)) ggX4_isBoth_X4_isNot
set_option maxRecDepth 20000 in
theorem ggX4_isBoth_X4_advance : GoodIn wsX4_isBoth wsX4_advance := goodIn_r _ [9, 10, 11, 12, 13, 1, 14, 15, 5, 16, 17, 18, 19, 20, 21, 22, 23, 24, 25, 26, 27, 28, 29, 30, 31, 32, 33, 34, 35, 36, 37, 38, 39, 40, 41, 42, 43, 44, 45, 46, 47, 48, 49, 50, 51, 52, 53, 54, 55, 56, 57, 58, 59, 60, 61, 62, 63, 64, 65, 66, 67, 68, 69, 70, 71, 72, 73, 74, 75, 76, 77, 78, 79, 80, 81, 82, 83, 84, 85, 86, 87, 88, 89, 90, 91, 92, 93, 94, 95, 96, 97, 98, 99, 100, 101, 102, 103, 104, 105, 106, 107, 108, 109, 110, 111, 112, 113, 114, 115, 116, 117, 118, 119, 120, 121, 122, 123, 124, 125, 126, 127, 128, 129, 130, 131, 132, 133, 134, 135, 136, 137, 138, 139, 140, 141, 142, 181, 182, 183, 184, 185, 186, 187, 188, 189] rfl (by decide +kernel)
set_option maxRecDepth 20000 in
theorem gX4_isBoth_X4_advance : GoodIn wsX4_isBoth (wsV RX4 31 RX4 yX4_advance wsX4_advance) := goodIn_app (goodIn_of _ (by decide +kernel)) ggX4_isBoth_X4_advance
set_option maxRecDepth 20000 in
theorem ggX4_isBoth_X4_isNoted : GoodIn wsX4_isBoth wsX4_isNoted := goodIn_r _ [146, 147, 148, 181, 182, 183, 184, 185, 186, 187, 188, 189] rfl (by decide +kernel)
set_option maxRecDepth 20000 in
theorem gX4_isBoth_X4_isNoted : GoodIn wsX4_isBoth (wsV RX4 61 RX4 yX4_isNoted wsX4_isNoted) := goodIn_app (goodIn_of _ (by decide +kernel)) ggX4_isBoth_X4_isNoted
theorem dX4_isBoth_0 : decode cX4_isBoth 0 = .ok (.aload_n 0, 1) := by decide +kernel
theorem dX4_isBoth_1 : decode cX4_isBoth 1 = .ok (.iload_n 1, 1) := by decide +kernel
theorem dX4_isBoth_2 : decode cX4_isBoth 2 = .ok (.invokevirtual 65, 3) := by decide +kernel
theorem dX4_isBoth_5 : decode cX4_isBoth 5 = .ok (.istore_n 2, 1) := by decide +kernel
theorem dX4_isBoth_6 : decode cX4_isBoth 6 = .ok (.iconst 0, 1) := by decide +kernel
theorem dX4_isBoth_7 : decode cX4_isBoth 7 = .ok (.istore_n 3, 1) := by decide +kernel
theorem dX4_isBoth_8 : decode cX4_isBoth 8 = .ok (.iload_n 3, 1) := by decide +kernel
theorem dX4_isBoth_9 : decode cX4_isBoth 9 = .ok (.sipush 160, 3) := by decide +kernel
theorem dX4_isBoth_12 : decode cX4_isBoth 12 = .ok (.if_icmp .ge 50, 3) := by decide +kernel
theorem dX4_isBoth_15 : decode cX4_isBoth 15 = .ok (.iload_n 2, 1) := by decide +kernel
theorem dX4_isBoth_16 : decode cX4_isBoth 16 = .ok (.ifCond .eq 46, 3) := by decide +kernel
theorem dX4_isBoth_19 : decode cX4_isBoth 19 = .ok (.aload_n 0, 1) := by decide +kernel
theorem dX4_isBoth_20 : decode cX4_isBoth 20 = .ok (.getfield 41, 3) := by decide +kernel
theorem dX4_isBoth_23 : decode cX4_isBoth 23 = .ok (.bipush 7, 2) := by decide +kernel
theorem dX4_isBoth_25 : decode cX4_isBoth 25 = .ok (.if_icmp .ne 37, 3) := by decide +kernel
theorem dX4_isBoth_28 : decode cX4_isBoth 28 = .ok (.aload_n 0, 1) := by decide +kernel
theorem dX4_isBoth_29 : decode cX4_isBoth 29 = .ok (.invokevirtual 31, 3) := by decide +kernel
theorem dX4_isBoth_32 : decode cX4_isBoth 32 = .ok (.aload_n 0, 1) := by decide +kernel
theorem dX4_isBoth_33 : decode cX4_isBoth 33 = .ok (.iload_n 1, 1) := by decide +kernel
theorem dX4_isBoth_34 : decode cX4_isBoth 34 = .ok (.invokevirtual 65, 3) := by decide +kernel
theorem dX4_isBoth_37 : decode cX4_isBoth 37 = .ok (.ifCond .eq 17, 3) := by decide +kernel
theorem dX4_isBoth_40 : decode cX4_isBoth 40 = .ok (.aload_n 0, 1) := by decide +kernel
theorem dX4_isBoth_41 : decode cX4_isBoth 41 = .ok (.bipush (-14), 2) := by decide +kernel
theorem dX4_isBoth_43 : decode cX4_isBoth 43 = .ok (.iconst 1, 1) := by decide +kernel
theorem dX4_isBoth_44 : decode cX4_isBoth 44 = .ok (.invokevirtual 61, 3) := by decide +kernel
theorem dX4_isBoth_47 : decode cX4_isBoth 47 = .ok (.ifCond .eq 7, 3) := by decide +kernel
theorem dX4_isBoth_50 : decode cX4_isBoth 50 = .ok (.iconst 1, 1) := by decide +kernel
theorem dX4_isBoth_51 : decode cX4_isBoth 51 = .ok (.goto 4, 3) := by decide +kernel
theorem dX4_isBoth_54 : decode cX4_isBoth 54 = .ok (.iconst 0, 1) := by decide +kernel
theorem dX4_isBoth_55 : decode cX4_isBoth 55 = .ok (.istore_n 2, 1) := by decide +kernel
theorem dX4_isBoth_56 : decode cX4_isBoth 56 = .ok (.iinc 3 1, 3) := by decide +kernel
theorem dX4_isBoth_59 : decode cX4_isBoth 59 = .ok (.goto (-51), 3) := by decide +kernel
theorem dX4_isBoth_62 : decode cX4_isBoth 62 = .ok (.iload_n 2, 1) := by decide +kernel
theorem dX4_isBoth_63 : decode cX4_isBoth 63 = .ok (.ireturn, 1) := by decide +kernel
set_option maxRecDepth 20000 in
theorem ggX4_isNot_X4_advance : GoodIn wsX4_isNot wsX4_advance := goodIn_r _ [6, 7, 8, 9, 10, 1, 11, 12, 5, 13, 14, 15, 16, 17, 18, 19, 20, 21, 22, 23, 24, 25, 26, 27, 28, 29, 30, 31, 32, 33, 34, 35, 36, 37, 38, 39, 40, 41, 42, 43, 44, 45, 46, 47, 48, 49, 50, 51, 52, 53, 54, 55, 56, 57, 58, 59, 60, 61, 62, 63, 64, 65, 66, 67, 68, 69, 70, 71, 72, 73, 74, 75, 76, 77, 78, 79, 80, 81, 82, 83, 84, 85, 86, 87, 88, 89, 90, 91, 92, 93, 94, 95, 96, 97, 98, 99, 100, 101, 102, 103, 104, 105, 106, 107, 108, 109, 110, 111, 112, 113, 114, 115, 116, 117, 118, 119, 120, 121, 122, 123, 124, 125, 126, 127, 128, 129, 130, 131, 132, 133, 134, 135, 136, 137, 138, 139, 181, 182, 183, 184, 185, 186, 187, 188, 189] rfl (by decide +kernel)
set_option maxRecDepth 20000 in
theorem gX4_isNot_X4_advance : GoodIn wsX4_isNot (wsV RX4 31 RX4 yX4_advance wsX4_advance) := goodIn_app (goodIn_of _ (by decide +kernel)) ggX4_isNot_X4_advance
set_option maxRecDepth 20000 in
theorem ggX4_isNot_X4_isComparison : GoodIn wsX4_isNot wsX4_isComparison := goodIn_r _ [153, 1, 154, 155, 156, 5, 2, 3, 4, 6, 7, 8, 9, 10, 11, 12, 13, 14, 15, 16, 17, 18, 19, 20, 21, 22, 23, 24, 25, 26, 27, 28, 29, 30, 31, 32, 33, 34, 35, 36, 37, 38, 39, 40, 41, 42, 43, 44, 45, 46, 47, 48, 49, 50, 51, 52, 53, 54, 55, 56, 57, 58, 59, 60, 61, 62, 63, 64, 65, 66, 67, 68, 69, 70, 71, 72, 73, 74, 75, 76, 77, 78, 79, 80, 81, 82, 83, 84, 85, 86, 87, 88, 89, 90, 91, 92, 93, 94, 95, 96, 97, 98, 99, 100, 101, 102, 103, 104, 105, 106, 107, 108, 109, 110, 111, 112, 113, 114, 115, 116, 117, 118, 119, 120, 121, 122, 123, 124, 125, 126, 127, 128, 129, 130, 131, 132, 133, 134, 135, 136, 137, 138, 139, 143, 144, 145, 146, 147, 148, 149, 150, 151, 152, 157, 158, 159, 160, 0, 140, 141, 142, 161, 162, 163, 164, 165, 166, 167, 168, 169, 170, 171, 172, 173, 174, 175, 176, 177, 178, 179, 180, 181, 182, 183, 184, 185, 186, 187, 188, 189] rfl (by decide +kernel)
set_option maxRecDepth 20000 in
theorem gX4_isNot_X4_isComparison : GoodIn wsX4_isNot (wsV RX4 68 RX4 yX4_isComparison wsX4_isComparison) := goodIn_app (goodIn_of _ (by decide +kernel)) ggX4_isNot_X4_isComparison
set_option maxRecDepth 20000 in
theorem ggX4_isNot_X4_isNoted : GoodIn wsX4_isNot wsX4_isNoted := goodIn_r _ [146, 147, 148, 181, 182, 183, 184, 185, 186, 187, 188, 189] rfl (by decide +kernel)
set_option maxRecDepth 20000 in
theorem gX4_isNot_X4_isNoted : GoodIn wsX4_isNot (wsV RX4 61 RX4 yX4_isNoted wsX4_isNoted) := goodIn_app (goodIn_of _ (by decide +kernel)) ggX4_isNot_X4_isNoted
theorem dX4_isNot_0 : decode cX4_isNot 0 = .ok (.iload_n 1, 1) := by decide +kernel
theorem dX4_isNot_1 : decode cX4_isNot 1 = .ok (.istore_n 2, 1) := by decide +kernel
theorem dX4_isNot_2 : decode cX4_isNot 2 = .ok (.iload_n 2, 1) := by decide +kernel
theorem dX4_isNot_3 : decode cX4_isNot 3 = .ok (.iconst 5, 1) := by decide +kernel
theorem dX4_isNot_4 : decode cX4_isNot 4 = .ok (.if_icmp .ge 22, 3) := by decide +kernel
theorem dX4_isNot_7 : decode cX4_isNot 7 = .ok (.aload_n 0, 1) := by decide +kernel
theorem dX4_isNot_8 : decode cX4_isNot 8 = .ok (.getfield 41, 3) := by decide +kernel
theorem dX4_isNot_11 : decode cX4_isNot 11 = .ok (.bipush 9, 2) := by decide +kernel
theorem dX4_isNot_13 : decode cX4_isNot 13 = .ok (.if_icmp .ne 13, 3) := by decide +kernel
theorem dX4_isNot_16 : decode cX4_isNot 16 = .ok (.aload_n 0, 1) := by decide +kernel
theorem dX4_isNot_17 : decode cX4_isNot 17 = .ok (.invokevirtual 31, 3) := by decide +kernel
theorem dX4_isNot_20 : decode cX4_isNot 20 = .ok (.iinc 2 1, 3) := by decide +kernel
theorem dX4_isNot_23 : decode cX4_isNot 23 = .ok (.goto (-21), 3) := by decide +kernel
theorem dX4_isNot_26 : decode cX4_isNot 26 = .ok (.aload_n 0, 1) := by decide +kernel
theorem dX4_isNot_27 : decode cX4_isNot 27 = .ok (.iload_n 2, 1) := by decide +kernel
theorem dX4_isNot_28 : decode cX4_isNot 28 = .ok (.invokevirtual 68, 3) := by decide +kernel
theorem dX4_isNot_31 : decode cX4_isNot 31 = .ok (.ifCond .eq 19, 3) := by decide +kernel
theorem dX4_isNot_34 : decode cX4_isNot 34 = .ok (.aload_n 0, 1) := by decide +kernel
theorem dX4_isNot_35 : decode cX4_isNot 35 = .ok (.bipush (-8), 2) := by decide +kernel
theorem dX4_isNot_37 : decode cX4_isNot 37 = .ok (.iload_n 2, 1) := by decide +kernel
theorem dX4_isNot_38 : decode cX4_isNot 38 = .ok (.iload_n 1, 1) := by decide +kernel
theorem dX4_isNot_39 : decode cX4_isNot 39 = .ok (.isub, 1) := by decide +kernel
theorem dX4_isNot_40 : decode cX4_isNot 40 = .ok (.invokevirtual 61, 3) := by decide +kernel
theorem dX4_isNot_43 : decode cX4_isNot 43 = .ok (.ifCond .eq 7, 3) := by decide +kernel
theorem dX4_isNot_46 : decode cX4_isNot 46 = .ok (.iconst 1, 1) := by decide +kernel
theorem dX4_isNot_47 : decode cX4_isNot 47 = .ok (.goto 4, 3) := by decide +kernel
theorem dX4_isNot_50 : decode cX4_isNot 50 = .ok (.iconst 0, 1) := by decide +kernel
theorem dX4_isNot_51 : decode cX4_isNot 51 = .ok (.ireturn, 1) := by decide +kernel
set_option maxRecDepth 20000 in
theorem ggX4_isComparison_X4_isSum : GoodIn wsX4_isComparison wsX4_isSum := goodIn_r _ [165, 1, 166, 167, 168, 5, 6, 7, 8, 9, 10, 11, 12, 13, 14, 15, 16, 17, 18, 19, 20, 21, 22, 23, 24, 25, 26, 27, 28, 29, 30, 31, 32, 33, 34, 35, 36, 37, 38, 39, 40, 41, 42, 43, 44, 45, 46, 47, 48, 49, 50, 51, 52, 53, 54, 55, 56, 57, 58, 59, 60, 61, 62, 63, 64, 65, 66, 67, 68, 69, 70, 71, 72, 73, 74, 75, 76, 77, 78, 79, 80, 81, 82, 83, 84, 85, 86, 87, 88, 89, 90, 91, 92, 93, 94, 95, 96, 97, 98, 99, 100, 101, 102, 103, 104, 105, 106, 107, 108, 109, 110, 111, 112, 113, 114, 115, 116, 117, 118, 119, 120, 121, 122, 123, 124, 125, 126, 127, 128, 129, 130, 131, 132, 133, 134, 135, 136, 137, 138, 139, 140, 141, 142, 143, 144, 145, 146, 147, 148, 149, 150, 151, 152, 0, 2, 3, 4, 153, 154, 155, 156, 157, 158, 159, 160, 161, 162, 163, 164, 169, 170, 171, 172, 173, 174, 175, 176, 177, 178, 179, 180, 181, 182, 183, 184, 185, 186, 187, 188, 189] rfl (by decide +kernel)
set_option maxRecDepth 20000 in
theorem gX4_isComparison_X4_isSum : GoodIn wsX4_isComparison (wsV RX4 71 RX4 yX4_isSum wsX4_isSum) := goodIn_app (goodIn_of _ (by decide +kernel)) ggX4_isComparison_X4_isSum
set_option maxRecDepth 20000 in
theorem ggX4_isComparison_X4_advance : GoodIn wsX4_isComparison wsX4_advance := goodIn_r _ [9, 10, 11, 12, 13, 1, 14, 15, 5, 16, 17, 18, 19, 20, 21, 22, 23, 24, 25, 26, 27, 28, 29, 30, 31, 32, 33, 34, 35, 36, 37, 38, 39, 40, 41, 42, 43, 44, 45, 46, 47, 48, 49, 50, 51, 52, 53, 54, 55, 56, 57, 58, 59, 60, 61, 62, 63, 64, 65, 66, 67, 68, 69, 70, 71, 72, 73, 74, 75, 76, 77, 78, 79, 80, 81, 82, 83, 84, 85, 86, 87, 88, 89, 90, 91, 92, 93, 94, 95, 96, 97, 98, 99, 100, 101, 102, 103, 104, 105, 106, 107, 108, 109, 110, 111, 112, 113, 114, 115, 116, 117, 118, 119, 120, 121, 122, 123, 124, 125, 126, 127, 128, 129, 130, 131, 132, 133, 134, 135, 136, 137, 138, 139, 140, 141, 142, 181, 182, 183, 184, 185, 186, 187, 188, 189] rfl (by decide +kernel)
set_option maxRecDepth 20000 in
theorem gX4_isComparison_X4_advance : GoodIn wsX4_isComparison (wsV RX4 31 RX4 yX4_advance wsX4_advance) := goodIn_app (goodIn_of _ (by decide +kernel)) ggX4_isComparison_X4_advance
set_option maxRecDepth 20000 in
theorem ggX4_isComparison_X4_isNoted : GoodIn wsX4_isComparison wsX4_isNoted := goodIn_r _ [146, 147, 148, 181, 182, 183, 184, 185, 186, 187, 188, 189] rfl (by decide +kernel)
set_option maxRecDepth 20000 in
theorem gX4_isComparison_X4_isNoted : GoodIn wsX4_isComparison (wsV RX4 61 RX4 yX4_isNoted wsX4_isNoted) := goodIn_app (goodIn_of _ (by decide +kernel)) ggX4_isComparison_X4_isNoted
theorem dX4_isComparison_0 : decode cX4_isComparison 0 = .ok (.aload_n 0, 1) := by decide +kernel
theorem dX4_isComparison_1 : decode cX4_isComparison 1 = .ok (.iload_n 1, 1) := by decide +kernel
theorem dX4_isComparison_2 : decode cX4_isComparison 2 = .ok (.invokevirtual 71, 3) := by decide +kernel
theorem dX4_isComparison_5 : decode cX4_isComparison 5 = .ok (.istore_n 2, 1) := by decide +kernel
theorem dX4_isComparison_6 : decode cX4_isComparison 6 = .ok (.iload_n 2, 1) := by decide +kernel
theorem dX4_isComparison_7 : decode cX4_isComparison 7 = .ok (.ifCond .eq 65, 3) := by decide +kernel
theorem dX4_isComparison_10 : decode cX4_isComparison 10 = .ok (.aload_n 0, 1) := by decide +kernel
theorem dX4_isComparison_11 : decode cX4_isComparison 11 = .ok (.getfield 41, 3) := by decide +kernel
theorem dX4_isComparison_14 : decode cX4_isComparison 14 = .ok (.bipush 60, 2) := by decide +kernel
theorem dX4_isComparison_16 : decode cX4_isComparison 16 = .ok (.if_icmp .eq 12, 3) := by decide +kernel
theorem dX4_isComparison_19 : decode cX4_isComparison 19 = .ok (.aload_n 0, 1) := by decide +kernel
theorem dX4_isComparison_20 : decode cX4_isComparison 20 = .ok (.getfield 41, 3) := by decide +kernel
theorem dX4_isComparison_23 : decode cX4_isComparison 23 = .ok (.bipush 61, 2) := by decide +kernel
theorem dX4_isComparison_25 : decode cX4_isComparison 25 = .ok (.if_icmp .ne 47, 3) := by decide +kernel
theorem dX4_isComparison_28 : decode cX4_isComparison 28 = .ok (.aload_n 0, 1) := by decide +kernel
theorem dX4_isComparison_29 : decode cX4_isComparison 29 = .ok (.getfield 41, 3) := by decide +kernel
theorem dX4_isComparison_32 : decode cX4_isComparison 32 = .ok (.bipush 60, 2) := by decide +kernel
theorem dX4_isComparison_34 : decode cX4_isComparison 34 = .ok (.if_icmp .ne 8, 3) := by decide +kernel
theorem dX4_isComparison_37 : decode cX4_isComparison 37 = .ok (.bipush (-12), 2) := by decide +kernel
theorem dX4_isComparison_39 : decode cX4_isComparison 39 = .ok (.goto 5, 3) := by decide +kernel
theorem dX4_isComparison_42 : decode cX4_isComparison 42 = .ok (.bipush (-13), 2) := by decide +kernel
theorem dX4_isComparison_44 : decode cX4_isComparison 44 = .ok (.istore_n 3, 1) := by decide +kernel
theorem dX4_isComparison_45 : decode cX4_isComparison 45 = .ok (.aload_n 0, 1) := by decide +kernel
theorem dX4_isComparison_46 : decode cX4_isComparison 46 = .ok (.invokevirtual 31, 3) := by decide +kernel
theorem dX4_isComparison_49 : decode cX4_isComparison 49 = .ok (.aload_n 0, 1) := by decide +kernel
theorem dX4_isComparison_50 : decode cX4_isComparison 50 = .ok (.iload_n 1, 1) := by decide +kernel
theorem dX4_isComparison_51 : decode cX4_isComparison 51 = .ok (.invokevirtual 71, 3) := by decide +kernel
theorem dX4_isComparison_54 : decode cX4_isComparison 54 = .ok (.ifCond .eq 16, 3) := by decide +kernel
theorem dX4_isComparison_57 : decode cX4_isComparison 57 = .ok (.aload_n 0, 1) := by decide +kernel
theorem dX4_isComparison_58 : decode cX4_isComparison 58 = .ok (.iload_n 3, 1) := by decide +kernel
theorem dX4_isComparison_59 : decode cX4_isComparison 59 = .ok (.iconst 1, 1) := by decide +kernel
theorem dX4_isComparison_60 : decode cX4_isComparison 60 = .ok (.invokevirtual 61, 3) := by decide +kernel
theorem dX4_isComparison_63 : decode cX4_isComparison 63 = .ok (.ifCond .eq 7, 3) := by decide +kernel
theorem dX4_isComparison_66 : decode cX4_isComparison 66 = .ok (.iconst 1, 1) := by decide +kernel
theorem dX4_isComparison_67 : decode cX4_isComparison 67 = .ok (.goto 4, 3) := by decide +kernel
theorem dX4_isComparison_70 : decode cX4_isComparison 70 = .ok (.iconst 0, 1) := by decide +kernel
theorem dX4_isComparison_71 : decode cX4_isComparison 71 = .ok (.istore_n 2, 1) := by decide +kernel
theorem dX4_isComparison_72 : decode cX4_isComparison 72 = .ok (.iload_n 2, 1) := by decide +kernel
theorem dX4_isComparison_73 : decode cX4_isComparison 73 = .ok (.ireturn, 1) := by decide +kernel
set_option maxRecDepth 20000 in
theorem ggX4_isSum_X4_isTerm : GoodIn wsX4_isSum wsX4_isTerm := goodIn_r _ [169, 1, 170, 171, 172, 5, 6, 7, 8, 9, 10, 11, 12, 13, 14, 15, 16, 17, 18, 19, 20, 21, 22, 23, 24, 25, 26, 27, 28, 29, 30, 31, 32, 33, 34, 35, 36, 37, 38, 39, 40, 41, 42, 43, 44, 45, 46, 47, 48, 49, 50, 51, 52, 53, 54, 55, 56, 57, 58, 59, 60, 61, 62, 63, 64, 65, 66, 67, 68, 69, 70, 71, 72, 73, 74, 75, 76, 77, 78, 79, 80, 81, 82, 83, 84, 85, 86, 87, 88, 89, 90, 91, 92, 93, 94, 95, 96, 97, 98, 99, 100, 101, 102, 103, 104, 105, 106, 107, 108, 109, 110, 111, 112, 113, 114, 115, 116, 117, 118, 119, 120, 121, 122, 123, 124, 125, 126, 127, 128, 129, 130, 131, 132, 133, 134, 135, 136, 137, 138, 139, 140, 141, 142, 143, 144, 145, 146, 147, 148, 149, 150, 151, 152, 153, 154, 155, 156, 157, 158, 159, 160, 161, 162, 163, 164, 165, 166, 167, 168, 0, 2, 3, 4, 173, 174, 175, 176, 177, 178, 179, 180, 181, 182, 183, 184, 185, 186, 187, 188, 189] rfl (by decide +kernel)
set_option maxRecDepth 20000 in
theorem gX4_isSum_X4_isTerm : GoodIn wsX4_isSum (wsV RX4 74 RX4 yX4_isTerm wsX4_isTerm) := goodIn_app (goodIn_of _ (by decide +kernel)) ggX4_isSum_X4_isTerm
set_option maxRecDepth 20000 in
theorem ggX4_isSum_X4_advance : GoodIn wsX4_isSum wsX4_advance := goodIn_r _ [9, 10, 11, 12, 13, 1, 14, 15, 5, 16, 17, 18, 19, 20, 21, 22, 23, 24, 25, 26, 27, 28, 29, 30, 31, 32, 33, 34, 35, 36, 37, 38, 39, 40, 41, 42, 43, 44, 45, 46, 47, 48, 49, 50, 51, 52, 53, 54, 55, 56, 57, 58, 59, 60, 61, 62, 63, 64, 65, 66, 67, 68, 69, 70, 71, 72, 73, 74, 75, 76, 77, 78, 79, 80, 81, 82, 83, 84, 85, 86, 87, 88, 89, 90, 91, 92, 93, 94, 95, 96, 97, 98, 99, 100, 101, 102, 103, 104, 105, 106, 107, 108, 109, 110, 111, 112, 113, 114, 115, 116, 117, 118, 119, 120, 121, 122, 123, 124, 125, 126, 127, 128, 129, 130, 131, 132, 133, 134, 135, 136, 137, 138, 139, 140, 141, 142, 181, 182, 183, 184, 185, 186, 187, 188, 189] rfl (by decide +kernel)
set_option maxRecDepth 20000 in
theorem gX4_isSum_X4_advance : GoodIn wsX4_isSum (wsV RX4 31 RX4 yX4_advance wsX4_advance) := goodIn_app (goodIn_of _ (by decide +kernel)) ggX4_isSum_X4_advance
set_option maxRecDepth 20000 in
theorem ggX4_isSum_X4_isNoted : GoodIn wsX4_isSum wsX4_isNoted := goodIn_r _ [146, 147, 148, 181, 182, 183, 184, 185, 186, 187, 188, 189] rfl (by decide +kernel)
set_option maxRecDepth 20000 in
theorem gX4_isSum_X4_isNoted : GoodIn wsX4_isSum (wsV RX4 61 RX4 yX4_isNoted wsX4_isNoted) := goodIn_app (goodIn_of _ (by decide +kernel)) ggX4_isSum_X4_isNoted
theorem dX4_isSum_0 : decode cX4_isSum 0 = .ok (.aload_n 0, 1) := by decide +kernel
theorem dX4_isSum_1 : decode cX4_isSum 1 = .ok (.iload_n 1, 1) := by decide +kernel
theorem dX4_isSum_2 : decode cX4_isSum 2 = .ok (.invokevirtual 74, 3) := by decide +kernel
theorem dX4_isSum_5 : decode cX4_isSum 5 = .ok (.istore_n 2, 1) := by decide +kernel
theorem dX4_isSum_6 : decode cX4_isSum 6 = .ok (.iconst 0, 1) := by decide +kernel
theorem dX4_isSum_7 : decode cX4_isSum 7 = .ok (.istore_n 3, 1) := by decide +kernel
theorem dX4_isSum_8 : decode cX4_isSum 8 = .ok (.iload_n 3, 1) := by decide +kernel
theorem dX4_isSum_9 : decode cX4_isSum 9 = .ok (.sipush 160, 3) := by decide +kernel

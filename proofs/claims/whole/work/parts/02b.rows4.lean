theorem dX4_init_0 : decode cX4_init 0 = .ok (.aload_n 0, 1) := by decide +kernel
theorem dX4_init_1 : decode cX4_init 1 = .ok (.invokespecial 3, 3) := by decide +kernel
theorem dX4_init_4 : decode cX4_init 4 = .ok (.aload_n 0, 1) := by decide +kernel
theorem dX4_init_5 : decode cX4_init 5 = .ok (.sipush 160, 3) := by decide +kernel
theorem dX4_init_8 : decode cX4_init 8 = .ok (.newarray .int, 2) := by decide +kernel
theorem dX4_init_10 : decode cX4_init 10 = .ok (.putfield 9, 3) := by decide +kernel
theorem dX4_init_13 : decode cX4_init 13 = .ok (.aload_n 0, 1) := by decide +kernel
theorem dX4_init_14 : decode cX4_init 14 = .ok (.sipush 160, 3) := by decide +kernel
theorem dX4_init_17 : decode cX4_init 17 = .ok (.newarray .int, 2) := by decide +kernel
theorem dX4_init_19 : decode cX4_init 19 = .ok (.putfield 15, 3) := by decide +kernel
theorem dX4_init_22 : decode cX4_init 22 = .ok (.aload_n 0, 1) := by decide +kernel
theorem dX4_init_23 : decode cX4_init 23 = .ok (.iconst 3, 1) := by decide +kernel
theorem dX4_init_24 : decode cX4_init 24 = .ok (.newarray .int, 2) := by decide +kernel
theorem dX4_init_26 : decode cX4_init 26 = .ok (.putfield 18, 3) := by decide +kernel
theorem dX4_init_29 : decode cX4_init 29 = .ok (.return_, 1) := by decide +kernel
theorem dX4_append_0 : decode cX4_append 0 = .ok (.aload_n 0, 1) := by decide +kernel
theorem dX4_append_1 : decode cX4_append 1 = .ok (.getfield 21, 3) := by decide +kernel
theorem dX4_append_4 : decode cX4_append 4 = .ok (.aload_n 0, 1) := by decide +kernel
theorem dX4_append_5 : decode cX4_append 5 = .ok (.getfield 9, 3) := by decide +kernel
theorem dX4_append_8 : decode cX4_append 8 = .ok (.arraylength, 1) := by decide +kernel
theorem dX4_append_9 : decode cX4_append 9 = .ok (.if_icmp .ge 23, 3) := by decide +kernel
theorem dX4_append_12 : decode cX4_append 12 = .ok (.aload_n 0, 1) := by decide +kernel
theorem dX4_append_13 : decode cX4_append 13 = .ok (.getfield 9, 3) := by decide +kernel
theorem dX4_append_16 : decode cX4_append 16 = .ok (.aload_n 0, 1) := by decide +kernel
theorem dX4_append_17 : decode cX4_append 17 = .ok (.getfield 21, 3) := by decide +kernel
theorem dX4_append_20 : decode cX4_append 20 = .ok (.iload_n 1, 1) := by decide +kernel
theorem dX4_append_21 : decode cX4_append 21 = .ok (.iastore, 1) := by decide +kernel
theorem dX4_append_22 : decode cX4_append 22 = .ok (.aload_n 0, 1) := by decide +kernel
theorem dX4_append_23 : decode cX4_append 23 = .ok (.dup, 1) := by decide +kernel
theorem dX4_append_24 : decode cX4_append 24 = .ok (.getfield 21, 3) := by decide +kernel
theorem dX4_append_27 : decode cX4_append 27 = .ok (.iconst 1, 1) := by decide +kernel
theorem dX4_append_28 : decode cX4_append 28 = .ok (.iadd, 1) := by decide +kernel
theorem dX4_append_29 : decode cX4_append 29 = .ok (.putfield 21, 3) := by decide +kernel
theorem dX4_append_32 : decode cX4_append 32 = .ok (.return_, 1) := by decide +kernel
set_option maxRecDepth 20000 in
theorem ggX4_fault_X4_advance : GoodIn wsX4_fault wsX4_advance := goodIn_r _ [10, 1, 11, 12, 5, 4, 13, 14, 9, 15, 16, 17, 18, 19, 20, 21, 22, 23, 24, 25, 26, 27, 28, 29, 30, 31, 32, 33, 34, 35, 36, 37, 38, 39, 40, 41, 42, 43, 44, 45, 46, 47, 48, 49, 50, 51, 52, 53, 54, 55, 56, 57, 58, 59, 60, 61, 62, 63, 64, 65, 66, 67, 68, 69, 70, 71, 72, 73, 74, 75, 76, 77, 78, 79, 80, 81, 82, 83, 84, 85, 86, 87, 88, 89, 90, 91, 92, 93, 94, 95, 96, 97, 98, 99, 100, 101, 102, 103, 104, 105, 106, 107, 108, 109, 110, 111, 112, 113, 114, 115, 116, 117, 118, 119, 120, 121, 122, 123, 124, 125, 126, 127, 128, 129, 130, 131, 132, 133, 134, 135, 136, 137, 138, 139, 140, 141, 183, 184, 185, 186, 187, 188, 189, 190, 191] (by decide +kernel) (by decide +kernel)
set_option maxRecDepth 20000 in
theorem gX4_fault_X4_advance : GoodIn wsX4_fault (wsV RX4 31 RX4 yX4_advance wsX4_advance) := goodIn_app (goodIn_of _ (by decide +kernel)) ggX4_fault_X4_advance
set_option maxRecDepth 20000 in
theorem ggX4_fault_X4_isTaken : GoodIn wsX4_fault wsX4_isTaken := goodIn_r _ [145, 4, 6, 7, 8, 9, 10, 1, 11, 12, 5, 13, 14, 15, 16, 17, 18, 19, 20, 21, 22, 23, 24, 25, 26, 27, 28, 29, 30, 31, 32, 33, 34, 35, 36, 37, 38, 39, 40, 41, 42, 43, 44, 45, 46, 47, 48, 49, 50, 51, 52, 53, 54, 55, 56, 57, 58, 59, 60, 61, 62, 63, 64, 65, 66, 67, 68, 69, 70, 71, 72, 73, 74, 75, 76, 77, 78, 79, 80, 81, 82, 83, 84, 85, 86, 87, 88, 89, 90, 91, 92, 93, 94, 95, 96, 97, 98, 99, 100, 101, 102, 103, 104, 105, 106, 107, 108, 109, 110, 111, 112, 113, 114, 115, 116, 117, 118, 119, 120, 121, 122, 123, 124, 125, 126, 127, 128, 129, 130, 131, 132, 133, 134, 135, 136, 137, 138, 139, 140, 141, 183, 184, 185, 186, 187, 188, 189, 190, 191] (by decide +kernel) (by decide +kernel)
set_option maxRecDepth 20000 in
theorem gX4_fault_X4_isTaken : GoodIn wsX4_fault (wsV RX4 34 RX4 yX4_isTaken wsX4_isTaken) := goodIn_app (goodIn_of _ (by decide +kernel)) ggX4_fault_X4_isTaken
set_option maxRecDepth 20000 in
theorem ggX4_fault_X4_isEither : GoodIn wsX4_fault wsX4_isEither := goodIn_r _ [149, 4, 150, 151, 152, 9, 6, 7, 8, 10, 1, 11, 12, 5, 13, 14, 15, 16, 17, 18, 19, 20, 21, 22, 23, 24, 25, 26, 27, 28, 29, 30, 31, 32, 33, 34, 35, 36, 37, 38, 39, 40, 41, 42, 43, 44, 45, 46, 47, 48, 49, 50, 51, 52, 53, 54, 55, 56, 57, 58, 59, 60, 61, 62, 63, 64, 65, 66, 67, 68, 69, 70, 71, 72, 73, 74, 75, 76, 77, 78, 79, 80, 81, 82, 83, 84, 85, 86, 87, 88, 89, 90, 91, 92, 93, 94, 95, 96, 97, 98, 99, 100, 101, 102, 103, 104, 105, 106, 107, 108, 109, 110, 111, 112, 113, 114, 115, 116, 117, 118, 119, 120, 121, 122, 123, 124, 125, 126, 127, 128, 129, 130, 131, 132, 133, 134, 135, 136, 137, 138, 139, 140, 141, 153, 154, 155, 156, 2, 157, 158, 159, 160, 161, 162, 163, 164, 165, 166, 167, 168, 169, 170, 171, 172, 173, 174, 175, 176, 177, 178, 179, 180, 181, 182, 142, 143, 144, 145, 146, 147, 148, 183, 184, 185, 186, 187, 188, 189, 190, 191] (by decide +kernel) (by decide +kernel)
set_option maxRecDepth 20000 in
theorem gX4_fault_X4_isEither : GoodIn wsX4_fault (wsV RX4 38 RX4 yX4_isEither wsX4_isEither) := goodIn_app (goodIn_of _ (by decide +kernel)) ggX4_fault_X4_isEither
theorem dX4_fault_0 : decode cX4_fault 0 = .ok (.aload_n 0, 1) := by decide +kernel
theorem dX4_fault_1 : decode cX4_fault 1 = .ok (.iconst 0, 1) := by decide +kernel
theorem dX4_fault_2 : decode cX4_fault 2 = .ok (.putfield 25, 3) := by decide +kernel
theorem dX4_fault_5 : decode cX4_fault 5 = .ok (.aload_n 0, 1) := by decide +kernel
theorem dX4_fault_6 : decode cX4_fault 6 = .ok (.iconst 0, 1) := by decide +kernel
theorem dX4_fault_7 : decode cX4_fault 7 = .ok (.putfield 28, 3) := by decide +kernel
theorem dX4_fault_10 : decode cX4_fault 10 = .ok (.aload_n 0, 1) := by decide +kernel
theorem dX4_fault_11 : decode cX4_fault 11 = .ok (.invokevirtual 31, 3) := by decide +kernel
theorem dX4_fault_14 : decode cX4_fault 14 = .ok (.iconst 1, 1) := by decide +kernel
theorem dX4_fault_15 : decode cX4_fault 15 = .ok (.istore_n 1, 1) := by decide +kernel
theorem dX4_fault_16 : decode cX4_fault 16 = .ok (.iconst 0, 1) := by decide +kernel
theorem dX4_fault_17 : decode cX4_fault 17 = .ok (.istore_n 2, 1) := by decide +kernel
theorem dX4_fault_18 : decode cX4_fault 18 = .ok (.iload_n 2, 1) := by decide +kernel
theorem dX4_fault_19 : decode cX4_fault 19 = .ok (.iconst 3, 1) := by decide +kernel
theorem dX4_fault_20 : decode cX4_fault 20 = .ok (.if_icmp .ge 56, 3) := by decide +kernel
theorem dX4_fault_23 : decode cX4_fault 23 = .ok (.iload_n 1, 1) := by decide +kernel
theorem dX4_fault_24 : decode cX4_fault 24 = .ok (.ifCond .eq 52, 3) := by decide +kernel
theorem dX4_fault_27 : decode cX4_fault 27 = .ok (.aload_n 0, 1) := by decide +kernel
theorem dX4_fault_28 : decode cX4_fault 28 = .ok (.getfield 18, 3) := by decide +kernel
theorem dX4_fault_31 : decode cX4_fault 31 = .ok (.iload_n 2, 1) := by decide +kernel
theorem dX4_fault_32 : decode cX4_fault 32 = .ok (.aload_n 0, 1) := by decide +kernel
theorem dX4_fault_33 : decode cX4_fault 33 = .ok (.getfield 28, 3) := by decide +kernel
theorem dX4_fault_36 : decode cX4_fault 36 = .ok (.iastore, 1) := by decide +kernel
theorem dX4_fault_37 : decode cX4_fault 37 = .ok (.aload_n 0, 1) := by decide +kernel
theorem dX4_fault_38 : decode cX4_fault 38 = .ok (.iconst 4, 1) := by decide +kernel
theorem dX4_fault_39 : decode cX4_fault 39 = .ok (.iload_n 2, 1) := by decide +kernel
theorem dX4_fault_40 : decode cX4_fault 40 = .ok (.iadd, 1) := by decide +kernel
theorem dX4_fault_41 : decode cX4_fault 41 = .ok (.invokevirtual 34, 3) := by decide +kernel
theorem dX4_fault_44 : decode cX4_fault 44 = .ok (.ifCond .eq 24, 3) := by decide +kernel
theorem dX4_fault_47 : decode cX4_fault 47 = .ok (.aload_n 0, 1) := by decide +kernel
theorem dX4_fault_48 : decode cX4_fault 48 = .ok (.iconst 0, 1) := by decide +kernel
theorem dX4_fault_49 : decode cX4_fault 49 = .ok (.invokevirtual 38, 3) := by decide +kernel
theorem dX4_fault_52 : decode cX4_fault 52 = .ok (.ifCond .eq 16, 3) := by decide +kernel
theorem dX4_fault_55 : decode cX4_fault 55 = .ok (.aload_n 0, 1) := by decide +kernel
theorem dX4_fault_56 : decode cX4_fault 56 = .ok (.bipush 59, 2) := by decide +kernel
theorem dX4_fault_58 : decode cX4_fault 58 = .ok (.invokevirtual 34, 3) := by decide +kernel
theorem dX4_fault_61 : decode cX4_fault 61 = .ok (.ifCond .eq 7, 3) := by decide +kernel
theorem dX4_fault_64 : decode cX4_fault 64 = .ok (.iconst 1, 1) := by decide +kernel
theorem dX4_fault_65 : decode cX4_fault 65 = .ok (.goto 4, 3) := by decide +kernel
theorem dX4_fault_68 : decode cX4_fault 68 = .ok (.iconst 0, 1) := by decide +kernel
theorem dX4_fault_69 : decode cX4_fault 69 = .ok (.istore_n 1, 1) := by decide +kernel
theorem dX4_fault_70 : decode cX4_fault 70 = .ok (.iinc 2 1, 3) := by decide +kernel
theorem dX4_fault_73 : decode cX4_fault 73 = .ok (.goto (-55), 3) := by decide +kernel
theorem dX4_fault_76 : decode cX4_fault 76 = .ok (.iload_n 1, 1) := by decide +kernel
theorem dX4_fault_77 : decode cX4_fault 77 = .ok (.ifCond .eq 14, 3) := by decide +kernel
theorem dX4_fault_80 : decode cX4_fault 80 = .ok (.aload_n 0, 1) := by decide +kernel
theorem dX4_fault_81 : decode cX4_fault 81 = .ok (.getfield 41, 3) := by decide +kernel
theorem dX4_fault_84 : decode cX4_fault 84 = .ok (.ifCond .ne 7, 3) := by decide +kernel
theorem dX4_fault_87 : decode cX4_fault 87 = .ok (.iconst (-1), 1) := by decide +kernel
theorem dX4_fault_88 : decode cX4_fault 88 = .ok (.goto 7, 3) := by decide +kernel
theorem dX4_fault_91 : decode cX4_fault 91 = .ok (.aload_n 0, 1) := by decide +kernel
theorem dX4_fault_92 : decode cX4_fault 92 = .ok (.getfield 44, 3) := by decide +kernel
theorem dX4_fault_95 : decode cX4_fault 95 = .ok (.ireturn, 1) := by decide +kernel
set_option maxRecDepth 20000 in
theorem ggX4_lawRead_J7_copyOf_59c91 : GoodIn wsX4_lawRead wsJ7_copyOf_59c91 := goodIn_r _ [10, 11, 12, 13, 14, 15, 16, 17, 18, 19, 20, 21, 22, 23, 24, 25] (by decide +kernel) (by decide +kernel)
set_option maxRecDepth 20000 in
theorem gX4_lawRead_J7_copyOf_59c91 : GoodIn wsX4_lawRead (va_wsS RX4 49 yJ7_copyOf_59c91 wsJ7_copyOf_59c91) := goodIn_app (goodIn_of _ (by decide +kernel)) ggX4_lawRead_J7_copyOf_59c91
set_option maxRecDepth 20000 in
theorem ggX4_lawRead_X2_init : GoodIn wsX4_lawRead wsX2_init := goodIn_r _ [28, 29, 30, 31, 32, 33, 34, 35, 36, 37, 38, 39] (by decide +kernel) (by decide +kernel)
set_option maxRecDepth 20000 in
theorem gX4_lawRead_X2_init : GoodIn wsX4_lawRead (wsX2_init) := ggX4_lawRead_X2_init
theorem dX4_lawRead_0 : decode cX4_lawRead 0 = .ok (.new 47, 3) := by decide +kernel
theorem dX4_lawRead_3 : decode cX4_lawRead 3 = .ok (.dup, 1) := by decide +kernel
theorem dX4_lawRead_4 : decode cX4_lawRead 4 = .ok (.iload_n 1, 1) := by decide +kernel
theorem dX4_lawRead_5 : decode cX4_lawRead 5 = .ok (.aload_n 0, 1) := by decide +kernel
theorem dX4_lawRead_6 : decode cX4_lawRead 6 = .ok (.getfield 15, 3) := by decide +kernel
theorem dX4_lawRead_9 : decode cX4_lawRead 9 = .ok (.aload_n 0, 1) := by decide +kernel
theorem dX4_lawRead_10 : decode cX4_lawRead 10 = .ok (.getfield 28, 3) := by decide +kernel
theorem dX4_lawRead_13 : decode cX4_lawRead 13 = .ok (.invokestatic 49, 3) := by decide +kernel
theorem dX4_lawRead_16 : decode cX4_lawRead 16 = .ok (.aload_n 0, 1) := by decide +kernel
theorem dX4_lawRead_17 : decode cX4_lawRead 17 = .ok (.getfield 18, 3) := by decide +kernel
theorem dX4_lawRead_20 : decode cX4_lawRead 20 = .ok (.iconst 1, 1) := by decide +kernel
theorem dX4_lawRead_21 : decode cX4_lawRead 21 = .ok (.iaload, 1) := by decide +kernel
theorem dX4_lawRead_22 : decode cX4_lawRead 22 = .ok (.aload_n 0, 1) := by decide +kernel
theorem dX4_lawRead_23 : decode cX4_lawRead 23 = .ok (.getfield 18, 3) := by decide +kernel
theorem dX4_lawRead_26 : decode cX4_lawRead 26 = .ok (.iconst 2, 1) := by decide +kernel
theorem dX4_lawRead_27 : decode cX4_lawRead 27 = .ok (.iaload, 1) := by decide +kernel
theorem dX4_lawRead_28 : decode cX4_lawRead 28 = .ok (.invokespecial 55, 3) := by decide +kernel
theorem dX4_lawRead_31 : decode cX4_lawRead 31 = .ok (.areturn, 1) := by decide +kernel
set_option maxRecDepth 20000 in
theorem ggX4_isTaken_X4_advance : GoodIn wsX4_isTaken wsX4_advance := goodIn_r _ [6, 7, 8, 9, 10, 1, 11, 12, 5, 13, 14, 15, 16, 17, 18, 19, 20, 21, 22, 23, 24, 25, 26, 27, 28, 29, 30, 31, 32, 33, 34, 35, 36, 37, 38, 39, 40, 41, 42, 43, 44, 45, 46, 47, 48, 49, 50, 51, 52, 53, 54, 55, 56, 57, 58, 59, 60, 61, 62, 63, 64, 65, 66, 67, 68, 69, 70, 71, 72, 73, 74, 75, 76, 77, 78, 79, 80, 81, 82, 83, 84, 85, 86, 87, 88, 89, 90, 91, 92, 93, 94, 95, 96, 97, 98, 99, 100, 101, 102, 103, 104, 105, 106, 107, 108, 109, 110, 111, 112, 113, 114, 115, 116, 117, 118, 119, 120, 121, 122, 123, 124, 125, 126, 127, 128, 129, 130, 131, 132, 133, 134, 135, 136, 137, 138, 139, 140, 141, 142, 143, 144, 145, 146, 147, 148] (by decide +kernel) (by decide +kernel)
set_option maxRecDepth 20000 in
theorem gX4_isTaken_X4_advance : GoodIn wsX4_isTaken (wsV RX4 31 RX4 yX4_advance wsX4_advance) := goodIn_app (goodIn_of _ (by decide +kernel)) ggX4_isTaken_X4_advance
theorem dX4_isTaken_0 : decode cX4_isTaken 0 = .ok (.aload_n 0, 1) := by decide +kernel
theorem dX4_isTaken_1 : decode cX4_isTaken 1 = .ok (.getfield 41, 3) := by decide +kernel
theorem dX4_isTaken_4 : decode cX4_isTaken 4 = .ok (.iload_n 1, 1) := by decide +kernel
theorem dX4_isTaken_5 : decode cX4_isTaken 5 = .ok (.if_icmp .eq 5, 3) := by decide +kernel
theorem dX4_isTaken_8 : decode cX4_isTaken 8 = .ok (.iconst 0, 1) := by decide +kernel
theorem dX4_isTaken_9 : decode cX4_isTaken 9 = .ok (.ireturn, 1) := by decide +kernel
theorem dX4_isTaken_10 : decode cX4_isTaken 10 = .ok (.aload_n 0, 1) := by decide +kernel
theorem dX4_isTaken_11 : decode cX4_isTaken 11 = .ok (.invokevirtual 31, 3) := by decide +kernel
theorem dX4_isTaken_14 : decode cX4_isTaken 14 = .ok (.iconst 1, 1) := by decide +kernel
theorem dX4_isTaken_15 : decode cX4_isTaken 15 = .ok (.ireturn, 1) := by decide +kernel
set_option maxRecDepth 20000 in
theorem ggX4_isEither_X4_isBoth : GoodIn wsX4_isEither wsX4_isBoth := goodIn_r _ [149, 1, 150, 151, 152, 5, 6, 7, 8, 9, 10, 11, 12, 13, 14, 15, 16, 17, 18, 19, 20, 21, 22, 23, 24, 25, 26, 27, 28, 29, 30, 31, 32, 33, 34, 35, 36, 37, 38, 39, 40, 41, 42, 43, 44, 45, 46, 47, 48, 49, 50, 51, 52, 53, 54, 55, 56, 57, 58, 59, 60, 61, 62, 63, 64, 65, 66, 67, 68, 69, 70, 71, 72, 73, 74, 75, 76, 77, 78, 79, 80, 81, 82, 83, 84, 85, 86, 87, 88, 89, 90, 91, 92, 93, 94, 95, 96, 97, 98, 99, 100, 101, 102, 103, 104, 105, 106, 107, 108, 109, 110, 111, 112, 113, 114, 115, 116, 117, 118, 119, 120, 121, 122, 123, 124, 125, 126, 127, 128, 129, 130, 131, 132, 133, 134, 135, 136, 137, 138, 139, 140, 141, 142, 143, 144, 145, 146, 147, 148, 153, 154, 155, 156, 0, 2, 3, 4, 157, 158, 159, 160, 161, 162, 163, 164, 165, 166, 167, 168, 169, 170, 171, 172, 173, 174, 175, 176, 177, 178, 179, 180, 181, 182, 183, 184, 185, 186, 187, 188, 189] (by decide +kernel) (by decide +kernel)
set_option maxRecDepth 20000 in
theorem gX4_isEither_X4_isBoth : GoodIn wsX4_isEither (wsV RX4 58 RX4 yX4_isBoth wsX4_isBoth) := goodIn_app (goodIn_of _ (by decide +kernel)) ggX4_isEither_X4_isBoth
set_option maxRecDepth 20000 in
theorem ggX4_isEither_X4_advance : GoodIn wsX4_isEither wsX4_advance := goodIn_r _ [9, 10, 11, 12, 13, 1, 14, 15, 5, 16, 17, 18, 19, 20, 21, 22, 23, 24, 25, 26, 27, 28, 29, 30, 31, 32, 33, 34, 35, 36, 37, 38, 39, 40, 41, 42, 43, 44, 45, 46, 47, 48, 49, 50, 51, 52, 53, 54, 55, 56, 57, 58, 59, 60, 61, 62, 63, 64, 65, 66, 67, 68, 69, 70, 71, 72, 73, 74, 75, 76, 77, 78, 79, 80, 81, 82, 83, 84, 85, 86, 87, 88, 89, 90, 91, 92, 93, 94, 95, 96, 97, 98, 99, 100, 101, 102, 103, 104, 105, 106, 107, 108, 109, 110, 111, 112, 113, 114, 115, 116, 117, 118, 119, 120, 121, 122, 123, 124, 125, 126, 127, 128, 129, 130, 131, 132, 133, 134, 135, 136, 137, 138, 139, 140, 141, 142, 181, 182, 183, 184, 185, 186, 187, 188, 189] (by decide +kernel) (by decide +kernel)
set_option maxRecDepth 20000 in
theorem gX4_isEither_X4_advance : GoodIn wsX4_isEither (wsV RX4 31 RX4 yX4_advance wsX4_advance) := goodIn_app (goodIn_of _ (by decide +kernel)) ggX4_isEither_X4_advance
set_option maxRecDepth 20000 in
theorem ggX4_isEither_X4_isNoted : GoodIn wsX4_isEither wsX4_isNoted := goodIn_r _ [146, 147, 148, 181, 182, 183, 184, 185, 186, 187, 188, 189] (by decide +kernel) (by decide +kernel)
set_option maxRecDepth 20000 in
theorem gX4_isEither_X4_isNoted : GoodIn wsX4_isEither (wsV RX4 61 RX4 yX4_isNoted wsX4_isNoted) := goodIn_app (goodIn_of _ (by decide +kernel)) ggX4_isEither_X4_isNoted
theorem dX4_isEither_0 : decode cX4_isEither 0 = .ok (.aload_n 0, 1) := by decide +kernel
theorem dX4_isEither_1 : decode cX4_isEither 1 = .ok (.iload_n 1, 1) := by decide +kernel
theorem dX4_isEither_2 : decode cX4_isEither 2 = .ok (.invokevirtual 58, 3) := by decide +kernel
theorem dX4_isEither_5 : decode cX4_isEither 5 = .ok (.istore_n 2, 1) := by decide +kernel
theorem dX4_isEither_6 : decode cX4_isEither 6 = .ok (.iconst 0, 1) := by decide +kernel
theorem dX4_isEither_7 : decode cX4_isEither 7 = .ok (.istore_n 3, 1) := by decide +kernel
theorem dX4_isEither_8 : decode cX4_isEither 8 = .ok (.iload_n 3, 1) := by decide +kernel
theorem dX4_isEither_9 : decode cX4_isEither 9 = .ok (.sipush 160, 3) := by decide +kernel
theorem dX4_isEither_12 : decode cX4_isEither 12 = .ok (.if_icmp .ge 50, 3) := by decide +kernel
theorem dX4_isEither_15 : decode cX4_isEither 15 = .ok (.iload_n 2, 1) := by decide +kernel
theorem dX4_isEither_16 : decode cX4_isEither 16 = .ok (.ifCond .eq 46, 3) := by decide +kernel
theorem dX4_isEither_19 : decode cX4_isEither 19 = .ok (.aload_n 0, 1) := by decide +kernel
theorem dX4_isEither_20 : decode cX4_isEither 20 = .ok (.getfield 41, 3) := by decide +kernel
theorem dX4_isEither_23 : decode cX4_isEither 23 = .ok (.bipush 8, 2) := by decide +kernel
theorem dX4_isEither_25 : decode cX4_isEither 25 = .ok (.if_icmp .ne 37, 3) := by decide +kernel
theorem dX4_isEither_28 : decode cX4_isEither 28 = .ok (.aload_n 0, 1) := by decide +kernel
theorem dX4_isEither_29 : decode cX4_isEither 29 = .ok (.invokevirtual 31, 3) := by decide +kernel
theorem dX4_isEither_32 : decode cX4_isEither 32 = .ok (.aload_n 0, 1) := by decide +kernel
theorem dX4_isEither_33 : decode cX4_isEither 33 = .ok (.iload_n 1, 1) := by decide +kernel
theorem dX4_isEither_34 : decode cX4_isEither 34 = .ok (.invokevirtual 58, 3) := by decide +kernel
theorem dX4_isEither_37 : decode cX4_isEither 37 = .ok (.ifCond .eq 17, 3) := by decide +kernel
theorem dX4_isEither_40 : decode cX4_isEither 40 = .ok (.aload_n 0, 1) := by decide +kernel
theorem dX4_isEither_41 : decode cX4_isEither 41 = .ok (.bipush (-15), 2) := by decide +kernel
theorem dX4_isEither_43 : decode cX4_isEither 43 = .ok (.iconst 1, 1) := by decide +kernel
theorem dX4_isEither_44 : decode cX4_isEither 44 = .ok (.invokevirtual 61, 3) := by decide +kernel
theorem dX4_isEither_47 : decode cX4_isEither 47 = .ok (.ifCond .eq 7, 3) := by decide +kernel
theorem dX4_isEither_50 : decode cX4_isEither 50 = .ok (.iconst 1, 1) := by decide +kernel
theorem dX4_isEither_51 : decode cX4_isEither 51 = .ok (.goto 4, 3) := by decide +kernel
theorem dX4_isEither_54 : decode cX4_isEither 54 = .ok (.iconst 0, 1) := by decide +kernel
theorem dX4_isEither_55 : decode cX4_isEither 55 = .ok (.istore_n 2, 1) := by decide +kernel
theorem dX4_isEither_56 : decode cX4_isEither 56 = .ok (.iinc 3 1, 3) := by decide +kernel
theorem dX4_isEither_59 : decode cX4_isEither 59 = .ok (.goto (-51), 3) := by decide +kernel
theorem dX4_isEither_62 : decode cX4_isEither 62 = .ok (.iload_n 2, 1) := by decide +kernel
theorem dX4_isEither_63 : decode cX4_isEither 63 = .ok (.ireturn, 1) := by decide +kernel
set_option maxRecDepth 20000 in
theorem ggX4_isBoth_X4_isNot : GoodIn wsX4_isBoth wsX4_isNot := goodIn_r _ [157, 1, 6, 7, 8, 5, 9, 10, 11, 12, 13, 14, 15, 16, 17, 18, 19, 20, 21, 22, 23, 24, 25, 26, 27, 28, 29, 30, 31, 32, 33, 34, 35, 36, 37, 38, 39, 40, 41, 42, 43, 44, 45, 46, 47, 48, 49, 50, 51, 52, 53, 54, 55, 56, 57, 58, 59, 60, 61, 62, 63, 64, 65, 66, 67, 68, 69, 70, 71, 72, 73, 74, 75, 76, 77, 78, 79, 80, 81, 82, 83, 84, 85, 86, 87, 88, 89, 90, 91, 92, 93, 94, 95, 96, 97, 98, 99, 100, 101, 102, 103, 104, 105, 106, 107, 108, 109, 110, 111, 112, 113, 114, 115, 116, 117, 118, 119, 120, 121, 122, 123, 124, 125, 126, 127, 128, 129, 130, 131, 132, 133, 134, 135, 136, 137, 138, 139, 140, 141, 142, 158, 159, 160, 143, 144, 145, 146, 147, 148, 0, 2, 3, 4, 149, 150, 151, 152, 153, 154, 155, 156, 161, 162, 163, 164, 165, 166, 167, 168, 169, 170, 171, 172, 173, 174, 175, 176, 177, 178, 179, 180, 181, 182, 183, 184, 185, 186, 187, 188, 189] (by decide +kernel) (by decide +kernel)
set_option maxRecDepth 20000 in
theorem gX4_isBoth_X4_isNot : GoodIn wsX4_isBoth (wsV RX4 65 RX4 yX4_isNot wsX4_isNot) := goodIn_app (goodIn_of _ (by decide +kernel)) ggX4_isBoth_X4_isNot
set_option maxRecDepth 20000 in
theorem ggX4_isBoth_X4_advance : GoodIn wsX4_isBoth wsX4_advance := goodIn_r _ [9, 10, 11, 12, 13, 1, 14, 15, 5, 16, 17, 18, 19, 20, 21, 22, 23, 24, 25, 26, 27, 28, 29, 30, 31, 32, 33, 34, 35, 36, 37, 38, 39, 40, 41, 42, 43, 44, 45, 46, 47, 48, 49, 50, 51, 52, 53, 54, 55, 56, 57, 58, 59, 60, 61, 62, 63, 64, 65, 66, 67, 68, 69, 70, 71, 72, 73, 74, 75, 76, 77, 78, 79, 80, 81, 82, 83, 84, 85, 86, 87, 88, 89, 90, 91, 92, 93, 94, 95, 96, 97, 98, 99, 100, 101, 102, 103, 104, 105, 106, 107, 108, 109, 110, 111, 112, 113, 114, 115, 116, 117, 118, 119, 120, 121, 122, 123, 124, 125, 126, 127, 128, 129, 130, 131, 132, 133, 134, 135, 136, 137, 138, 139, 140, 141, 142, 181, 182, 183, 184, 185, 186, 187, 188, 189] (by decide +kernel) (by decide +kernel)
set_option maxRecDepth 20000 in
theorem gX4_isBoth_X4_advance : GoodIn wsX4_isBoth (wsV RX4 31 RX4 yX4_advance wsX4_advance) := goodIn_app (goodIn_of _ (by decide +kernel)) ggX4_isBoth_X4_advance
set_option maxRecDepth 20000 in
theorem ggX4_isBoth_X4_isNoted : GoodIn wsX4_isBoth wsX4_isNoted := goodIn_r _ [146, 147, 148, 181, 182, 183, 184, 185, 186, 187, 188, 189] (by decide +kernel) (by decide +kernel)
set_option maxRecDepth 20000 in
theorem gX4_isBoth_X4_isNoted : GoodIn wsX4_isBoth (wsV RX4 61 RX4 yX4_isNoted wsX4_isNoted) := goodIn_app (goodIn_of _ (by decide +kernel)) ggX4_isBoth_X4_isNoted
theorem dX4_isBoth_0 : decode cX4_isBoth 0 = .ok (.aload_n 0, 1) := by decide +kernel
theorem dX4_isBoth_1 : decode cX4_isBoth 1 = .ok (.iload_n 1, 1) := by decide +kernel
theorem dX4_isBoth_2 : decode cX4_isBoth 2 = .ok (.invokevirtual 65, 3) := by decide +kernel
theorem dX4_isBoth_5 : decode cX4_isBoth 5 = .ok (.istore_n 2, 1) := by decide +kernel
theorem dX4_isBoth_6 : decode cX4_isBoth 6 = .ok (.iconst 0, 1) := by decide +kernel
theorem dX4_isBoth_7 : decode cX4_isBoth 7 = .ok (.istore_n 3, 1) := by decide +kernel
theorem dX4_isBoth_8 : decode cX4_isBoth 8 = .ok (.iload_n 3, 1) := by decide +kernel
theorem dX4_isBoth_9 : decode cX4_isBoth 9 = .ok (.sipush 160, 3) := by decide +kernel
theorem dX4_isBoth_12 : decode cX4_isBoth 12 = .ok (.if_icmp .ge 50, 3) := by decide +kernel
theorem dX4_isBoth_15 : decode cX4_isBoth 15 = .ok (.iload_n 2, 1) := by decide +kernel
theorem dX4_isBoth_16 : decode cX4_isBoth 16 = .ok (.ifCond .eq 46, 3) := by decide +kernel
theorem dX4_isBoth_19 : decode cX4_isBoth 19 = .ok (.aload_n 0, 1) := by decide +kernel
theorem dX4_isBoth_20 : decode cX4_isBoth 20 = .ok (.getfield 41, 3) := by decide +kernel
theorem dX4_isBoth_23 : decode cX4_isBoth 23 = .ok (.bipush 7, 2) := by decide +kernel
theorem dX4_isBoth_25 : decode cX4_isBoth 25 = .ok (.if_icmp .ne 37, 3) := by decide +kernel
theorem dX4_isBoth_28 : decode cX4_isBoth 28 = .ok (.aload_n 0, 1) := by decide +kernel
theorem dX4_isBoth_29 : decode cX4_isBoth 29 = .ok (.invokevirtual 31, 3) := by decide +kernel
theorem dX4_isBoth_32 : decode cX4_isBoth 32 = .ok (.aload_n 0, 1) := by decide +kernel
theorem dX4_isBoth_33 : decode cX4_isBoth 33 = .ok (.iload_n 1, 1) := by decide +kernel
theorem dX4_isBoth_34 : decode cX4_isBoth 34 = .ok (.invokevirtual 65, 3) := by decide +kernel
theorem dX4_isBoth_37 : decode cX4_isBoth 37 = .ok (.ifCond .eq 17, 3) := by decide +kernel
theorem dX4_isBoth_40 : decode cX4_isBoth 40 = .ok (.aload_n 0, 1) := by decide +kernel
theorem dX4_isBoth_41 : decode cX4_isBoth 41 = .ok (.bipush (-14), 2) := by decide +kernel
theorem dX4_isBoth_43 : decode cX4_isBoth 43 = .ok (.iconst 1, 1) := by decide +kernel
theorem dX4_isBoth_44 : decode cX4_isBoth 44 = .ok (.invokevirtual 61, 3) := by decide +kernel
theorem dX4_isBoth_47 : decode cX4_isBoth 47 = .ok (.ifCond .eq 7, 3) := by decide +kernel
theorem dX4_isBoth_50 : decode cX4_isBoth 50 = .ok (.iconst 1, 1) := by decide +kernel
theorem dX4_isBoth_51 : decode cX4_isBoth 51 = .ok (.goto 4, 3) := by decide +kernel
theorem dX4_isBoth_54 : decode cX4_isBoth 54 = .ok (.iconst 0, 1) := by decide +kernel
theorem dX4_isBoth_55 : decode cX4_isBoth 55 = .ok (.istore_n 2, 1) := by decide +kernel
theorem dX4_isBoth_56 : decode cX4_isBoth 56 = .ok (.iinc 3 1, 3) := by decide +kernel
theorem dX4_isBoth_59 : decode cX4_isBoth 59 = .ok (.goto (-51), 3) := by decide +kernel
theorem dX4_isBoth_62 : decode cX4_isBoth 62 = .ok (.iload_n 2, 1) := by decide +kernel
theorem dX4_isBoth_63 : decode cX4_isBoth 63 = .ok (.ireturn, 1) := by decide +kernel
set_option maxRecDepth 20000 in
theorem ggX4_isNot_X4_advance : GoodIn wsX4_isNot wsX4_advance := goodIn_r _ [6, 7, 8, 9, 10, 1, 11, 12, 5, 13, 14, 15, 16, 17, 18, 19, 20, 21, 22, 23, 24, 25, 26, 27, 28, 29, 30, 31, 32, 33, 34, 35, 36, 37, 38, 39, 40, 41, 42, 43, 44, 45, 46, 47, 48, 49, 50, 51, 52, 53, 54, 55, 56, 57, 58, 59, 60, 61, 62, 63, 64, 65, 66, 67, 68, 69, 70, 71, 72, 73, 74, 75, 76, 77, 78, 79, 80, 81, 82, 83, 84, 85, 86, 87, 88, 89, 90, 91, 92, 93, 94, 95, 96, 97, 98, 99, 100, 101, 102, 103, 104, 105, 106, 107, 108, 109, 110, 111, 112, 113, 114, 115, 116, 117, 118, 119, 120, 121, 122, 123, 124, 125, 126, 127, 128, 129, 130, 131, 132, 133, 134, 135, 136, 137, 138, 139, 181, 182, 183, 184, 185, 186, 187, 188, 189] (by decide +kernel) (by decide +kernel)
set_option maxRecDepth 20000 in
theorem gX4_isNot_X4_advance : GoodIn wsX4_isNot (wsV RX4 31 RX4 yX4_advance wsX4_advance) := goodIn_app (goodIn_of _ (by decide +kernel)) ggX4_isNot_X4_advance
set_option maxRecDepth 20000 in
theorem ggX4_isNot_X4_isComparison : GoodIn wsX4_isNot wsX4_isComparison := goodIn_r _ [153, 1, 154, 155, 156, 5, 2, 3, 4, 6, 7, 8, 9, 10, 11, 12, 13, 14, 15, 16, 17, 18, 19, 20, 21, 22, 23, 24, 25, 26, 27, 28, 29, 30, 31, 32, 33, 34, 35, 36, 37, 38, 39, 40, 41, 42, 43, 44, 45, 46, 47, 48, 49, 50, 51, 52, 53, 54, 55, 56, 57, 58, 59, 60, 61, 62, 63, 64, 65, 66, 67, 68, 69, 70, 71, 72, 73, 74, 75, 76, 77, 78, 79, 80, 81, 82, 83, 84, 85, 86, 87, 88, 89, 90, 91, 92, 93, 94, 95, 96, 97, 98, 99, 100, 101, 102, 103, 104, 105, 106, 107, 108, 109, 110, 111, 112, 113, 114, 115, 116, 117, 118, 119, 120, 121, 122, 123, 124, 125, 126, 127, 128, 129, 130, 131, 132, 133, 134, 135, 136, 137, 138, 139, 143, 144, 145, 146, 147, 148, 149, 150, 151, 152, 157, 158, 159, 160, 0, 140, 141, 142, 161, 162, 163, 164, 165, 166, 167, 168, 169, 170, 171, 172, 173, 174, 175, 176, 177, 178, 179, 180, 181, 182, 183, 184, 185, 186, 187, 188, 189] (by decide +kernel) (by decide +kernel)
set_option maxRecDepth 20000 in
theorem gX4_isNot_X4_isComparison : GoodIn wsX4_isNot (wsV RX4 68 RX4 yX4_isComparison wsX4_isComparison) := goodIn_app (goodIn_of _ (by decide +kernel)) ggX4_isNot_X4_isComparison
set_option maxRecDepth 20000 in
theorem ggX4_isNot_X4_isNoted : GoodIn wsX4_isNot wsX4_isNoted := goodIn_r _ [146, 147, 148, 181, 182, 183, 184, 185, 186, 187, 188, 189] (by decide +kernel) (by decide +kernel)
set_option maxRecDepth 20000 in
theorem gX4_isNot_X4_isNoted : GoodIn wsX4_isNot (wsV RX4 61 RX4 yX4_isNoted wsX4_isNoted) := goodIn_app (goodIn_of _ (by decide +kernel)) ggX4_isNot_X4_isNoted
theorem dX4_isNot_0 : decode cX4_isNot 0 = .ok (.iload_n 1, 1) := by decide +kernel
theorem dX4_isNot_1 : decode cX4_isNot 1 = .ok (.istore_n 2, 1) := by decide +kernel
theorem dX4_isNot_2 : decode cX4_isNot 2 = .ok (.iload_n 2, 1) := by decide +kernel
theorem dX4_isNot_3 : decode cX4_isNot 3 = .ok (.iconst 5, 1) := by decide +kernel
theorem dX4_isNot_4 : decode cX4_isNot 4 = .ok (.if_icmp .ge 22, 3) := by decide +kernel
theorem dX4_isNot_7 : decode cX4_isNot 7 = .ok (.aload_n 0, 1) := by decide +kernel
theorem dX4_isNot_8 : decode cX4_isNot 8 = .ok (.getfield 41, 3) := by decide +kernel
theorem dX4_isNot_11 : decode cX4_isNot 11 = .ok (.bipush 9, 2) := by decide +kernel
theorem dX4_isNot_13 : decode cX4_isNot 13 = .ok (.if_icmp .ne 13, 3) := by decide +kernel
theorem dX4_isNot_16 : decode cX4_isNot 16 = .ok (.aload_n 0, 1) := by decide +kernel
theorem dX4_isNot_17 : decode cX4_isNot 17 = .ok (.invokevirtual 31, 3) := by decide +kernel
theorem dX4_isNot_20 : decode cX4_isNot 20 = .ok (.iinc 2 1, 3) := by decide +kernel
theorem dX4_isNot_23 : decode cX4_isNot 23 = .ok (.goto (-21), 3) := by decide +kernel
theorem dX4_isNot_26 : decode cX4_isNot 26 = .ok (.aload_n 0, 1) := by decide +kernel
theorem dX4_isNot_27 : decode cX4_isNot 27 = .ok (.iload_n 2, 1) := by decide +kernel
theorem dX4_isNot_28 : decode cX4_isNot 28 = .ok (.invokevirtual 68, 3) := by decide +kernel
theorem dX4_isNot_31 : decode cX4_isNot 31 = .ok (.ifCond .eq 19, 3) := by decide +kernel
theorem dX4_isNot_34 : decode cX4_isNot 34 = .ok (.aload_n 0, 1) := by decide +kernel
theorem dX4_isNot_35 : decode cX4_isNot 35 = .ok (.bipush (-8), 2) := by decide +kernel
theorem dX4_isNot_37 : decode cX4_isNot 37 = .ok (.iload_n 2, 1) := by decide +kernel
theorem dX4_isNot_38 : decode cX4_isNot 38 = .ok (.iload_n 1, 1) := by decide +kernel
theorem dX4_isNot_39 : decode cX4_isNot 39 = .ok (.isub, 1) := by decide +kernel
theorem dX4_isNot_40 : decode cX4_isNot 40 = .ok (.invokevirtual 61, 3) := by decide +kernel
theorem dX4_isNot_43 : decode cX4_isNot 43 = .ok (.ifCond .eq 7, 3) := by decide +kernel
theorem dX4_isNot_46 : decode cX4_isNot 46 = .ok (.iconst 1, 1) := by decide +kernel
theorem dX4_isNot_47 : decode cX4_isNot 47 = .ok (.goto 4, 3) := by decide +kernel
theorem dX4_isNot_50 : decode cX4_isNot 50 = .ok (.iconst 0, 1) := by decide +kernel
theorem dX4_isNot_51 : decode cX4_isNot 51 = .ok (.ireturn, 1) := by decide +kernel
set_option maxRecDepth 20000 in
theorem ggX4_isComparison_X4_isSum : GoodIn wsX4_isComparison wsX4_isSum := goodIn_r _ [165, 1, 166, 167, 168, 5, 6, 7, 8, 9, 10, 11, 12, 13, 14, 15, 16, 17, 18, 19, 20, 21, 22, 23, 24, 25, 26, 27, 28, 29, 30, 31, 32, 33, 34, 35, 36, 37, 38, 39, 40, 41, 42, 43, 44, 45, 46, 47, 48, 49, 50, 51, 52, 53, 54, 55, 56, 57, 58, 59, 60, 61, 62, 63, 64, 65, 66, 67, 68, 69, 70, 71, 72, 73, 74, 75, 76, 77, 78, 79, 80, 81, 82, 83, 84, 85, 86, 87, 88, 89, 90, 91, 92, 93, 94, 95, 96, 97, 98, 99, 100, 101, 102, 103, 104, 105, 106, 107, 108, 109, 110, 111, 112, 113, 114, 115, 116, 117, 118, 119, 120, 121, 122, 123, 124, 125, 126, 127, 128, 129, 130, 131, 132, 133, 134, 135, 136, 137, 138, 139, 140, 141, 142, 143, 144, 145, 146, 147, 148, 149, 150, 151, 152, 0, 2, 3, 4, 153, 154, 155, 156, 157, 158, 159, 160, 161, 162, 163, 164, 169, 170, 171, 172, 173, 174, 175, 176, 177, 178, 179, 180, 181, 182, 183, 184, 185, 186, 187, 188, 189] (by decide +kernel) (by decide +kernel)
set_option maxRecDepth 20000 in
theorem gX4_isComparison_X4_isSum : GoodIn wsX4_isComparison (wsV RX4 71 RX4 yX4_isSum wsX4_isSum) := goodIn_app (goodIn_of _ (by decide +kernel)) ggX4_isComparison_X4_isSum
set_option maxRecDepth 20000 in
theorem ggX4_isComparison_X4_advance : GoodIn wsX4_isComparison wsX4_advance := goodIn_r _ [9, 10, 11, 12, 13, 1, 14, 15, 5, 16, 17, 18, 19, 20, 21, 22, 23, 24, 25, 26, 27, 28, 29, 30, 31, 32, 33, 34, 35, 36, 37, 38, 39, 40, 41, 42, 43, 44, 45, 46, 47, 48, 49, 50, 51, 52, 53, 54, 55, 56, 57, 58, 59, 60, 61, 62, 63, 64, 65, 66, 67, 68, 69, 70, 71, 72, 73, 74, 75, 76, 77, 78, 79, 80, 81, 82, 83, 84, 85, 86, 87, 88, 89, 90, 91, 92, 93, 94, 95, 96, 97, 98, 99, 100, 101, 102, 103, 104, 105, 106, 107, 108, 109, 110, 111, 112, 113, 114, 115, 116, 117, 118, 119, 120, 121, 122, 123, 124, 125, 126, 127, 128, 129, 130, 131, 132, 133, 134, 135, 136, 137, 138, 139, 140, 141, 142, 181, 182, 183, 184, 185, 186, 187, 188, 189] (by decide +kernel) (by decide +kernel)
set_option maxRecDepth 20000 in
theorem gX4_isComparison_X4_advance : GoodIn wsX4_isComparison (wsV RX4 31 RX4 yX4_advance wsX4_advance) := goodIn_app (goodIn_of _ (by decide +kernel)) ggX4_isComparison_X4_advance
set_option maxRecDepth 20000 in
theorem ggX4_isComparison_X4_isNoted : GoodIn wsX4_isComparison wsX4_isNoted := goodIn_r _ [146, 147, 148, 181, 182, 183, 184, 185, 186, 187, 188, 189] (by decide +kernel) (by decide +kernel)
set_option maxRecDepth 20000 in
theorem gX4_isComparison_X4_isNoted : GoodIn wsX4_isComparison (wsV RX4 61 RX4 yX4_isNoted wsX4_isNoted) := goodIn_app (goodIn_of _ (by decide +kernel)) ggX4_isComparison_X4_isNoted
theorem dX4_isComparison_0 : decode cX4_isComparison 0 = .ok (.aload_n 0, 1) := by decide +kernel
theorem dX4_isComparison_1 : decode cX4_isComparison 1 = .ok (.iload_n 1, 1) := by decide +kernel
theorem dX4_isComparison_2 : decode cX4_isComparison 2 = .ok (.invokevirtual 71, 3) := by decide +kernel
theorem dX4_isComparison_5 : decode cX4_isComparison 5 = .ok (.istore_n 2, 1) := by decide +kernel
theorem dX4_isComparison_6 : decode cX4_isComparison 6 = .ok (.iload_n 2, 1) := by decide +kernel
theorem dX4_isComparison_7 : decode cX4_isComparison 7 = .ok (.ifCond .eq 65, 3) := by decide +kernel
theorem dX4_isComparison_10 : decode cX4_isComparison 10 = .ok (.aload_n 0, 1) := by decide +kernel
theorem dX4_isComparison_11 : decode cX4_isComparison 11 = .ok (.getfield 41, 3) := by decide +kernel
theorem dX4_isComparison_14 : decode cX4_isComparison 14 = .ok (.bipush 60, 2) := by decide +kernel
theorem dX4_isComparison_16 : decode cX4_isComparison 16 = .ok (.if_icmp .eq 12, 3) := by decide +kernel
theorem dX4_isComparison_19 : decode cX4_isComparison 19 = .ok (.aload_n 0, 1) := by decide +kernel
theorem dX4_isComparison_20 : decode cX4_isComparison 20 = .ok (.getfield 41, 3) := by decide +kernel
theorem dX4_isComparison_23 : decode cX4_isComparison 23 = .ok (.bipush 61, 2) := by decide +kernel
theorem dX4_isComparison_25 : decode cX4_isComparison 25 = .ok (.if_icmp .ne 47, 3) := by decide +kernel
theorem dX4_isComparison_28 : decode cX4_isComparison 28 = .ok (.aload_n 0, 1) := by decide +kernel
theorem dX4_isComparison_29 : decode cX4_isComparison 29 = .ok (.getfield 41, 3) := by decide +kernel
theorem dX4_isComparison_32 : decode cX4_isComparison 32 = .ok (.bipush 60, 2) := by decide +kernel
theorem dX4_isComparison_34 : decode cX4_isComparison 34 = .ok (.if_icmp .ne 8, 3) := by decide +kernel
theorem dX4_isComparison_37 : decode cX4_isComparison 37 = .ok (.bipush (-12), 2) := by decide +kernel
theorem dX4_isComparison_39 : decode cX4_isComparison 39 = .ok (.goto 5, 3) := by decide +kernel
theorem dX4_isComparison_42 : decode cX4_isComparison 42 = .ok (.bipush (-13), 2) := by decide +kernel
theorem dX4_isComparison_44 : decode cX4_isComparison 44 = .ok (.istore_n 3, 1) := by decide +kernel
theorem dX4_isComparison_45 : decode cX4_isComparison 45 = .ok (.aload_n 0, 1) := by decide +kernel
theorem dX4_isComparison_46 : decode cX4_isComparison 46 = .ok (.invokevirtual 31, 3) := by decide +kernel
theorem dX4_isComparison_49 : decode cX4_isComparison 49 = .ok (.aload_n 0, 1) := by decide +kernel
theorem dX4_isComparison_50 : decode cX4_isComparison 50 = .ok (.iload_n 1, 1) := by decide +kernel
theorem dX4_isComparison_51 : decode cX4_isComparison 51 = .ok (.invokevirtual 71, 3) := by decide +kernel
theorem dX4_isComparison_54 : decode cX4_isComparison 54 = .ok (.ifCond .eq 16, 3) := by decide +kernel
theorem dX4_isComparison_57 : decode cX4_isComparison 57 = .ok (.aload_n 0, 1) := by decide +kernel
theorem dX4_isComparison_58 : decode cX4_isComparison 58 = .ok (.iload_n 3, 1) := by decide +kernel
theorem dX4_isComparison_59 : decode cX4_isComparison 59 = .ok (.iconst 1, 1) := by decide +kernel
theorem dX4_isComparison_60 : decode cX4_isComparison 60 = .ok (.invokevirtual 61, 3) := by decide +kernel
theorem dX4_isComparison_63 : decode cX4_isComparison 63 = .ok (.ifCond .eq 7, 3) := by decide +kernel
theorem dX4_isComparison_66 : decode cX4_isComparison 66 = .ok (.iconst 1, 1) := by decide +kernel
theorem dX4_isComparison_67 : decode cX4_isComparison 67 = .ok (.goto 4, 3) := by decide +kernel
theorem dX4_isComparison_70 : decode cX4_isComparison 70 = .ok (.iconst 0, 1) := by decide +kernel
theorem dX4_isComparison_71 : decode cX4_isComparison 71 = .ok (.istore_n 2, 1) := by decide +kernel
theorem dX4_isComparison_72 : decode cX4_isComparison 72 = .ok (.iload_n 2, 1) := by decide +kernel
theorem dX4_isComparison_73 : decode cX4_isComparison 73 = .ok (.ireturn, 1) := by decide +kernel
set_option maxRecDepth 20000 in
theorem ggX4_isSum_X4_isTerm : GoodIn wsX4_isSum wsX4_isTerm := goodIn_r _ [169, 1, 170, 171, 172, 5, 6, 7, 8, 9, 10, 11, 12, 13, 14, 15, 16, 17, 18, 19, 20, 21, 22, 23, 24, 25, 26, 27, 28, 29, 30, 31, 32, 33, 34, 35, 36, 37, 38, 39, 40, 41, 42, 43, 44, 45, 46, 47, 48, 49, 50, 51, 52, 53, 54, 55, 56, 57, 58, 59, 60, 61, 62, 63, 64, 65, 66, 67, 68, 69, 70, 71, 72, 73, 74, 75, 76, 77, 78, 79, 80, 81, 82, 83, 84, 85, 86, 87, 88, 89, 90, 91, 92, 93, 94, 95, 96, 97, 98, 99, 100, 101, 102, 103, 104, 105, 106, 107, 108, 109, 110, 111, 112, 113, 114, 115, 116, 117, 118, 119, 120, 121, 122, 123, 124, 125, 126, 127, 128, 129, 130, 131, 132, 133, 134, 135, 136, 137, 138, 139, 140, 141, 142, 143, 144, 145, 146, 147, 148, 149, 150, 151, 152, 153, 154, 155, 156, 157, 158, 159, 160, 161, 162, 163, 164, 165, 166, 167, 168, 0, 2, 3, 4, 173, 174, 175, 176, 177, 178, 179, 180, 181, 182, 183, 184, 185, 186, 187, 188, 189] (by decide +kernel) (by decide +kernel)
set_option maxRecDepth 20000 in
theorem gX4_isSum_X4_isTerm : GoodIn wsX4_isSum (wsV RX4 74 RX4 yX4_isTerm wsX4_isTerm) := goodIn_app (goodIn_of _ (by decide +kernel)) ggX4_isSum_X4_isTerm
set_option maxRecDepth 20000 in
theorem ggX4_isSum_X4_advance : GoodIn wsX4_isSum wsX4_advance := goodIn_r _ [9, 10, 11, 12, 13, 1, 14, 15, 5, 16, 17, 18, 19, 20, 21, 22, 23, 24, 25, 26, 27, 28, 29, 30, 31, 32, 33, 34, 35, 36, 37, 38, 39, 40, 41, 42, 43, 44, 45, 46, 47, 48, 49, 50, 51, 52, 53, 54, 55, 56, 57, 58, 59, 60, 61, 62, 63, 64, 65, 66, 67, 68, 69, 70, 71, 72, 73, 74, 75, 76, 77, 78, 79, 80, 81, 82, 83, 84, 85, 86, 87, 88, 89, 90, 91, 92, 93, 94, 95, 96, 97, 98, 99, 100, 101, 102, 103, 104, 105, 106, 107, 108, 109, 110, 111, 112, 113, 114, 115, 116, 117, 118, 119, 120, 121, 122, 123, 124, 125, 126, 127, 128, 129, 130, 131, 132, 133, 134, 135, 136, 137, 138, 139, 140, 141, 142, 181, 182, 183, 184, 185, 186, 187, 188, 189] (by decide +kernel) (by decide +kernel)
set_option maxRecDepth 20000 in
theorem gX4_isSum_X4_advance : GoodIn wsX4_isSum (wsV RX4 31 RX4 yX4_advance wsX4_advance) := goodIn_app (goodIn_of _ (by decide +kernel)) ggX4_isSum_X4_advance
set_option maxRecDepth 20000 in
theorem ggX4_isSum_X4_isNoted : GoodIn wsX4_isSum wsX4_isNoted := goodIn_r _ [146, 147, 148, 181, 182, 183, 184, 185, 186, 187, 188, 189] (by decide +kernel) (by decide +kernel)
set_option maxRecDepth 20000 in
theorem gX4_isSum_X4_isNoted : GoodIn wsX4_isSum (wsV RX4 61 RX4 yX4_isNoted wsX4_isNoted) := goodIn_app (goodIn_of _ (by decide +kernel)) ggX4_isSum_X4_isNoted
theorem dX4_isSum_0 : decode cX4_isSum 0 = .ok (.aload_n 0, 1) := by decide +kernel
theorem dX4_isSum_1 : decode cX4_isSum 1 = .ok (.iload_n 1, 1) := by decide +kernel
theorem dX4_isSum_2 : decode cX4_isSum 2 = .ok (.invokevirtual 74, 3) := by decide +kernel
theorem dX4_isSum_5 : decode cX4_isSum 5 = .ok (.istore_n 2, 1) := by decide +kernel
theorem dX4_isSum_6 : decode cX4_isSum 6 = .ok (.iconst 0, 1) := by decide +kernel
theorem dX4_isSum_7 : decode cX4_isSum 7 = .ok (.istore_n 3, 1) := by decide +kernel
theorem dX4_isSum_8 : decode cX4_isSum 8 = .ok (.iload_n 3, 1) := by decide +kernel
theorem dX4_isSum_9 : decode cX4_isSum 9 = .ok (.sipush 160, 3) := by decide +kernel
theorem dX4_isSum_12 : decode cX4_isSum 12 = .ok (.if_icmp .ge 77, 3) := by decide +kernel
theorem dX4_isSum_15 : decode cX4_isSum 15 = .ok (.iload_n 2, 1) := by decide +kernel
theorem dX4_isSum_16 : decode cX4_isSum 16 = .ok (.ifCond .eq 73, 3) := by decide +kernel
theorem dX4_isSum_19 : decode cX4_isSum 19 = .ok (.aload_n 0, 1) := by decide +kernel
theorem dX4_isSum_20 : decode cX4_isSum 20 = .ok (.getfield 41, 3) := by decide +kernel
theorem dX4_isSum_23 : decode cX4_isSum 23 = .ok (.bipush 43, 2) := by decide +kernel
theorem dX4_isSum_25 : decode cX4_isSum 25 = .ok (.if_icmp .eq 12, 3) := by decide +kernel
theorem dX4_isSum_28 : decode cX4_isSum 28 = .ok (.aload_n 0, 1) := by decide +kernel
theorem dX4_isSum_29 : decode cX4_isSum 29 = .ok (.getfield 41, 3) := by decide +kernel
theorem dX4_isSum_32 : decode cX4_isSum 32 = .ok (.bipush 45, 2) := by decide +kernel
theorem dX4_isSum_34 : decode cX4_isSum 34 = .ok (.if_icmp .ne 55, 3) := by decide +kernel
theorem dX4_isSum_37 : decode cX4_isSum 37 = .ok (.aload_n 0, 1) := by decide +kernel
theorem dX4_isSum_38 : decode cX4_isSum 38 = .ok (.getfield 41, 3) := by decide +kernel
theorem dX4_isSum_41 : decode cX4_isSum 41 = .ok (.bipush 43, 2) := by decide +kernel
theorem dX4_isSum_43 : decode cX4_isSum 43 = .ok (.if_icmp .ne 8, 3) := by decide +kernel
theorem dX4_isSum_46 : decode cX4_isSum 46 = .ok (.bipush (-9), 2) := by decide +kernel
theorem dX4_isSum_48 : decode cX4_isSum 48 = .ok (.goto 5, 3) := by decide +kernel
theorem dX4_isSum_51 : decode cX4_isSum 51 = .ok (.bipush (-10), 2) := by decide +kernel
theorem dX4_isSum_53 : decode cX4_isSum 53 = .ok (.istore 4, 2) := by decide +kernel
theorem dX4_isSum_55 : decode cX4_isSum 55 = .ok (.aload_n 0, 1) := by decide +kernel
theorem dX4_isSum_56 : decode cX4_isSum 56 = .ok (.invokevirtual 31, 3) := by decide +kernel
theorem dX4_isSum_59 : decode cX4_isSum 59 = .ok (.aload_n 0, 1) := by decide +kernel
theorem dX4_isSum_60 : decode cX4_isSum 60 = .ok (.iload_n 1, 1) := by decide +kernel
theorem dX4_isSum_61 : decode cX4_isSum 61 = .ok (.invokevirtual 74, 3) := by decide +kernel
theorem dX4_isSum_64 : decode cX4_isSum 64 = .ok (.ifCond .eq 17, 3) := by decide +kernel
theorem dX4_isSum_67 : decode cX4_isSum 67 = .ok (.aload_n 0, 1) := by decide +kernel
theorem dX4_isSum_68 : decode cX4_isSum 68 = .ok (.iload 4, 2) := by decide +kernel
theorem dX4_isSum_70 : decode cX4_isSum 70 = .ok (.iconst 1, 1) := by decide +kernel
theorem dX4_isSum_71 : decode cX4_isSum 71 = .ok (.invokevirtual 61, 3) := by decide +kernel
theorem dX4_isSum_74 : decode cX4_isSum 74 = .ok (.ifCond .eq 7, 3) := by decide +kernel
theorem dX4_isSum_77 : decode cX4_isSum 77 = .ok (.iconst 1, 1) := by decide +kernel
theorem dX4_isSum_78 : decode cX4_isSum 78 = .ok (.goto 4, 3) := by decide +kernel
theorem dX4_isSum_81 : decode cX4_isSum 81 = .ok (.iconst 0, 1) := by decide +kernel
theorem dX4_isSum_82 : decode cX4_isSum 82 = .ok (.istore_n 2, 1) := by decide +kernel
theorem dX4_isSum_83 : decode cX4_isSum 83 = .ok (.iinc 3 1, 3) := by decide +kernel
theorem dX4_isSum_86 : decode cX4_isSum 86 = .ok (.goto (-78), 3) := by decide +kernel
theorem dX4_isSum_89 : decode cX4_isSum 89 = .ok (.iload_n 2, 1) := by decide +kernel
theorem dX4_isSum_90 : decode cX4_isSum 90 = .ok (.ireturn, 1) := by decide +kernel
set_option maxRecDepth 20000 in
theorem ggX4_isTerm_X4_isOne : GoodIn wsX4_isTerm wsX4_isOne := goodIn_r _ [165, 1, 6, 7, 8, 5, 9, 10, 11, 12, 13, 14, 15, 16, 17, 18, 19, 20, 21, 22, 23, 24, 25, 26, 27, 28, 29, 30, 31, 32, 33, 34, 35, 36, 37, 38, 39, 40, 41, 42, 43, 44, 45, 46, 47, 48, 49, 50, 51, 52, 53, 54, 55, 56, 57, 58, 59, 60, 61, 62, 63, 64, 65, 66, 67, 68, 69, 70, 71, 72, 73, 74, 75, 76, 77, 78, 79, 80, 81, 82, 83, 84, 85, 86, 87, 88, 89, 90, 91, 92, 93, 94, 95, 96, 97, 98, 99, 100, 101, 102, 103, 104, 105, 106, 107, 108, 109, 110, 111, 112, 113, 114, 115, 116, 117, 118, 119, 120, 121, 122, 123, 124, 125, 126, 127, 128, 129, 130, 131, 132, 133, 134, 135, 136, 137, 138, 139, 140, 141, 142, 166, 167, 168, 143, 144, 145, 146, 147, 148, 149, 150, 151, 152, 153, 154, 155, 156, 157, 158, 159, 160, 161, 162, 163, 164, 169, 170, 171, 172, 0, 2, 3, 4, 173, 174, 175, 176, 177, 178, 179, 180, 181, 182, 183, 184, 185, 186, 187, 188, 189] (by decide +kernel) (by decide +kernel)
set_option maxRecDepth 20000 in
theorem gX4_isTerm_X4_isOne : GoodIn wsX4_isTerm (wsV RX4 77 RX4 yX4_isOne wsX4_isOne) := goodIn_app (goodIn_of _ (by decide +kernel)) ggX4_isTerm_X4_isOne
set_option maxRecDepth 20000 in
theorem ggX4_isTerm_X4_advance : GoodIn wsX4_isTerm wsX4_advance := goodIn_r _ [9, 10, 11, 12, 13, 1, 14, 15, 5, 16, 17, 18, 19, 20, 21, 22, 23, 24, 25, 26, 27, 28, 29, 30, 31, 32, 33, 34, 35, 36, 37, 38, 39, 40, 41, 42, 43, 44, 45, 46, 47, 48, 49, 50, 51, 52, 53, 54, 55, 56, 57, 58, 59, 60, 61, 62, 63, 64, 65, 66, 67, 68, 69, 70, 71, 72, 73, 74, 75, 76, 77, 78, 79, 80, 81, 82, 83, 84, 85, 86, 87, 88, 89, 90, 91, 92, 93, 94, 95, 96, 97, 98, 99, 100, 101, 102, 103, 104, 105, 106, 107, 108, 109, 110, 111, 112, 113, 114, 115, 116, 117, 118, 119, 120, 121, 122, 123, 124, 125, 126, 127, 128, 129, 130, 131, 132, 133, 134, 135, 136, 137, 138, 139, 140, 141, 142, 181, 182, 183, 184, 185, 186, 187, 188, 189] (by decide +kernel) (by decide +kernel)
set_option maxRecDepth 20000 in
theorem gX4_isTerm_X4_advance : GoodIn wsX4_isTerm (wsV RX4 31 RX4 yX4_advance wsX4_advance) := goodIn_app (goodIn_of _ (by decide +kernel)) ggX4_isTerm_X4_advance
set_option maxRecDepth 20000 in
theorem ggX4_isTerm_X4_isNoted : GoodIn wsX4_isTerm wsX4_isNoted := goodIn_r _ [146, 147, 148, 181, 182, 183, 184, 185, 186, 187, 188, 189] (by decide +kernel) (by decide +kernel)
set_option maxRecDepth 20000 in
theorem gX4_isTerm_X4_isNoted : GoodIn wsX4_isTerm (wsV RX4 61 RX4 yX4_isNoted wsX4_isNoted) := goodIn_app (goodIn_of _ (by decide +kernel)) ggX4_isTerm_X4_isNoted
theorem dX4_isTerm_0 : decode cX4_isTerm 0 = .ok (.aload_n 0, 1) := by decide +kernel
theorem dX4_isTerm_1 : decode cX4_isTerm 1 = .ok (.iload_n 1, 1) := by decide +kernel
theorem dX4_isTerm_2 : decode cX4_isTerm 2 = .ok (.invokevirtual 77, 3) := by decide +kernel
theorem dX4_isTerm_5 : decode cX4_isTerm 5 = .ok (.istore_n 2, 1) := by decide +kernel
theorem dX4_isTerm_6 : decode cX4_isTerm 6 = .ok (.iconst 0, 1) := by decide +kernel
theorem dX4_isTerm_7 : decode cX4_isTerm 7 = .ok (.istore_n 3, 1) := by decide +kernel
theorem dX4_isTerm_8 : decode cX4_isTerm 8 = .ok (.iload_n 3, 1) := by decide +kernel
theorem dX4_isTerm_9 : decode cX4_isTerm 9 = .ok (.sipush 160, 3) := by decide +kernel
theorem dX4_isTerm_12 : decode cX4_isTerm 12 = .ok (.if_icmp .ge 50, 3) := by decide +kernel
theorem dX4_isTerm_15 : decode cX4_isTerm 15 = .ok (.iload_n 2, 1) := by decide +kernel
theorem dX4_isTerm_16 : decode cX4_isTerm 16 = .ok (.ifCond .eq 46, 3) := by decide +kernel
theorem dX4_isTerm_19 : decode cX4_isTerm 19 = .ok (.aload_n 0, 1) := by decide +kernel
theorem dX4_isTerm_20 : decode cX4_isTerm 20 = .ok (.getfield 41, 3) := by decide +kernel
theorem dX4_isTerm_23 : decode cX4_isTerm 23 = .ok (.bipush 42, 2) := by decide +kernel
theorem dX4_isTerm_25 : decode cX4_isTerm 25 = .ok (.if_icmp .ne 37, 3) := by decide +kernel
theorem dX4_isTerm_28 : decode cX4_isTerm 28 = .ok (.aload_n 0, 1) := by decide +kernel
theorem dX4_isTerm_29 : decode cX4_isTerm 29 = .ok (.invokevirtual 31, 3) := by decide +kernel
theorem dX4_isTerm_32 : decode cX4_isTerm 32 = .ok (.aload_n 0, 1) := by decide +kernel
theorem dX4_isTerm_33 : decode cX4_isTerm 33 = .ok (.iload_n 1, 1) := by decide +kernel
theorem dX4_isTerm_34 : decode cX4_isTerm 34 = .ok (.invokevirtual 77, 3) := by decide +kernel
theorem dX4_isTerm_37 : decode cX4_isTerm 37 = .ok (.ifCond .eq 17, 3) := by decide +kernel
theorem dX4_isTerm_40 : decode cX4_isTerm 40 = .ok (.aload_n 0, 1) := by decide +kernel
theorem dX4_isTerm_41 : decode cX4_isTerm 41 = .ok (.bipush (-11), 2) := by decide +kernel
theorem dX4_isTerm_43 : decode cX4_isTerm 43 = .ok (.iconst 1, 1) := by decide +kernel
theorem dX4_isTerm_44 : decode cX4_isTerm 44 = .ok (.invokevirtual 61, 3) := by decide +kernel
theorem dX4_isTerm_47 : decode cX4_isTerm 47 = .ok (.ifCond .eq 7, 3) := by decide +kernel
theorem dX4_isTerm_50 : decode cX4_isTerm 50 = .ok (.iconst 1, 1) := by decide +kernel
theorem dX4_isTerm_51 : decode cX4_isTerm 51 = .ok (.goto 4, 3) := by decide +kernel
theorem dX4_isTerm_54 : decode cX4_isTerm 54 = .ok (.iconst 0, 1) := by decide +kernel
theorem dX4_isTerm_55 : decode cX4_isTerm 55 = .ok (.istore_n 2, 1) := by decide +kernel
theorem dX4_isTerm_56 : decode cX4_isTerm 56 = .ok (.iinc 3 1, 3) := by decide +kernel
theorem dX4_isTerm_59 : decode cX4_isTerm 59 = .ok (.goto (-51), 3) := by decide +kernel
theorem dX4_isTerm_62 : decode cX4_isTerm 62 = .ok (.iload_n 2, 1) := by decide +kernel
theorem dX4_isTerm_63 : decode cX4_isTerm 63 = .ok (.ireturn, 1) := by decide +kernel
set_option maxRecDepth 20000 in
theorem ggX4_isOne_X4_advance : GoodIn wsX4_isOne wsX4_advance := goodIn_r _ [6, 7, 8, 9, 10, 1, 11, 12, 5, 13, 14, 15, 16, 17, 18, 19, 20, 21, 22, 23, 24, 25, 26, 27, 28, 29, 30, 31, 32, 33, 34, 35, 36, 37, 38, 39, 40, 41, 42, 43, 44, 45, 46, 47, 48, 49, 50, 51, 52, 53, 54, 55, 56, 57, 58, 59, 60, 61, 62, 63, 64, 65, 66, 67, 68, 69, 70, 71, 72, 73, 74, 75, 76, 77, 78, 79, 80, 81, 82, 83, 84, 85, 86, 87, 88, 89, 90, 91, 92, 93, 94, 95, 96, 97, 98, 99, 100, 101, 102, 103, 104, 105, 106, 107, 108, 109, 110, 111, 112, 113, 114, 115, 116, 117, 118, 119, 120, 121, 122, 123, 124, 125, 126, 127, 128, 129, 130, 131, 132, 133, 134, 135, 136, 137, 138, 139, 181, 182, 183, 184, 185, 186, 187, 188, 189] (by decide +kernel) (by decide +kernel)
set_option maxRecDepth 20000 in
theorem gX4_isOne_X4_advance : GoodIn wsX4_isOne (wsV RX4 31 RX4 yX4_advance wsX4_advance) := goodIn_app (goodIn_of _ (by decide +kernel)) ggX4_isOne_X4_advance
set_option maxRecDepth 20000 in
theorem ggX4_isOne_X4_isUnsigned : GoodIn wsX4_isOne wsX4_isUnsigned := goodIn_r _ [173, 1, 18, 143, 144, 145, 5, 146, 147, 148, 174, 175, 176, 177, 2, 3, 4, 6, 7, 8, 9, 10, 11, 12, 13, 14, 15, 16, 17, 19, 20, 21, 22, 23, 24, 25, 26, 27, 28, 29, 30, 31, 32, 33, 34, 35, 36, 37, 38, 39, 40, 41, 42, 43, 44, 45, 46, 47, 48, 49, 50, 51, 52, 53, 54, 55, 56, 57, 58, 59, 60, 61, 62, 63, 64, 65, 66, 67, 68, 69, 70, 71, 72, 73, 74, 75, 76, 77, 78, 79, 80, 81, 82, 83, 84, 85, 86, 87, 88, 89, 90, 91, 92, 93, 94, 95, 96, 97, 98, 99, 100, 101, 102, 103, 104, 105, 106, 107, 108, 109, 110, 111, 112, 113, 114, 115, 116, 117, 118, 119, 120, 121, 122, 123, 124, 125, 126, 127, 128, 129, 130, 131, 132, 133, 134, 135, 136, 137, 138, 139, 178, 179, 180, 149, 150, 151, 152, 153, 154, 155, 156, 157, 158, 159, 160, 161, 162, 163, 164, 0, 140, 141, 142, 165, 166, 167, 168, 169, 170, 171, 172, 181, 182, 183, 184, 185, 186, 187, 188, 189] (by decide +kernel) (by decide +kernel)
set_option maxRecDepth 20000 in
theorem gX4_isOne_X4_isUnsigned : GoodIn wsX4_isOne (wsV RX4 80 RX4 yX4_isUnsigned wsX4_isUnsigned) := goodIn_app (goodIn_of _ (by decide +kernel)) ggX4_isOne_X4_isUnsigned
set_option maxRecDepth 20000 in
theorem ggX4_isOne_X4_isNoted : GoodIn wsX4_isOne wsX4_isNoted := goodIn_r _ [146, 147, 148, 181, 182, 183, 184, 185, 186, 187, 188, 189] (by decide +kernel) (by decide +kernel)
set_option maxRecDepth 20000 in
theorem gX4_isOne_X4_isNoted : GoodIn wsX4_isOne (wsV RX4 61 RX4 yX4_isNoted wsX4_isNoted) := goodIn_app (goodIn_of _ (by decide +kernel)) ggX4_isOne_X4_isNoted
theorem dX4_isOne_0 : decode cX4_isOne 0 = .ok (.iload_n 1, 1) := by decide +kernel
theorem dX4_isOne_1 : decode cX4_isOne 1 = .ok (.istore_n 2, 1) := by decide +kernel
theorem dX4_isOne_2 : decode cX4_isOne 2 = .ok (.iload_n 2, 1) := by decide +kernel
theorem dX4_isOne_3 : decode cX4_isOne 3 = .ok (.iconst 5, 1) := by decide +kernel
theorem dX4_isOne_4 : decode cX4_isOne 4 = .ok (.if_icmp .ge 22, 3) := by decide +kernel
theorem dX4_isOne_7 : decode cX4_isOne 7 = .ok (.aload_n 0, 1) := by decide +kernel
theorem dX4_isOne_8 : decode cX4_isOne 8 = .ok (.getfield 41, 3) := by decide +kernel
theorem dX4_isOne_11 : decode cX4_isOne 11 = .ok (.bipush 45, 2) := by decide +kernel
theorem dX4_isOne_13 : decode cX4_isOne 13 = .ok (.if_icmp .ne 13, 3) := by decide +kernel
theorem dX4_isOne_16 : decode cX4_isOne 16 = .ok (.aload_n 0, 1) := by decide +kernel
theorem dX4_isOne_17 : decode cX4_isOne 17 = .ok (.invokevirtual 31, 3) := by decide +kernel
theorem dX4_isOne_20 : decode cX4_isOne 20 = .ok (.iinc 2 1, 3) := by decide +kernel
theorem dX4_isOne_23 : decode cX4_isOne 23 = .ok (.goto (-21), 3) := by decide +kernel
theorem dX4_isOne_26 : decode cX4_isOne 26 = .ok (.aload_n 0, 1) := by decide +kernel
theorem dX4_isOne_27 : decode cX4_isOne 27 = .ok (.iload_n 2, 1) := by decide +kernel
theorem dX4_isOne_28 : decode cX4_isOne 28 = .ok (.invokevirtual 80, 3) := by decide +kernel
theorem dX4_isOne_31 : decode cX4_isOne 31 = .ok (.ifCond .eq 19, 3) := by decide +kernel
theorem dX4_isOne_34 : decode cX4_isOne 34 = .ok (.aload_n 0, 1) := by decide +kernel
theorem dX4_isOne_35 : decode cX4_isOne 35 = .ok (.bipush (-7), 2) := by decide +kernel
theorem dX4_isOne_37 : decode cX4_isOne 37 = .ok (.iload_n 2, 1) := by decide +kernel
theorem dX4_isOne_38 : decode cX4_isOne 38 = .ok (.iload_n 1, 1) := by decide +kernel
theorem dX4_isOne_39 : decode cX4_isOne 39 = .ok (.isub, 1) := by decide +kernel
theorem dX4_isOne_40 : decode cX4_isOne 40 = .ok (.invokevirtual 61, 3) := by decide +kernel
theorem dX4_isOne_43 : decode cX4_isOne 43 = .ok (.ifCond .eq 7, 3) := by decide +kernel
theorem dX4_isOne_46 : decode cX4_isOne 46 = .ok (.iconst 1, 1) := by decide +kernel
theorem dX4_isOne_47 : decode cX4_isOne 47 = .ok (.goto 4, 3) := by decide +kernel
theorem dX4_isOne_50 : decode cX4_isOne 50 = .ok (.iconst 0, 1) := by decide +kernel
theorem dX4_isOne_51 : decode cX4_isOne 51 = .ok (.ireturn, 1) := by decide +kernel
set_option maxRecDepth 20000 in
theorem ggX4_isUnsigned_X4_isNoted : GoodIn wsX4_isUnsigned wsX4_isNoted := goodIn_r _ [7, 8, 9, 181, 182, 183, 184, 185, 186, 187, 188, 189] (by decide +kernel) (by decide +kernel)
set_option maxRecDepth 20000 in
theorem gX4_isUnsigned_X4_isNoted : GoodIn wsX4_isUnsigned (wsV RX4 61 RX4 yX4_isNoted wsX4_isNoted) := goodIn_app (goodIn_of _ (by decide +kernel)) ggX4_isUnsigned_X4_isNoted
set_option maxRecDepth 20000 in
theorem ggX4_isUnsigned_X4_isTaken : GoodIn wsX4_isUnsigned wsX4_isTaken := goodIn_r _ [13, 1, 14, 15, 16, 6, 17, 18, 19, 20, 21, 22, 23, 24, 25, 26, 27, 28, 2, 29, 30, 31, 32, 33, 34, 35, 36, 37, 38, 39, 40, 41, 42, 43, 44, 45, 46, 47, 48, 49, 50, 51, 52, 53, 54, 55, 56, 57, 58, 59, 60, 61, 62, 63, 64, 65, 66, 67, 68, 69, 70, 71, 72, 73, 74, 75, 76, 77, 78, 79, 80, 81, 82, 83, 84, 85, 86, 87, 88, 89, 90, 91, 92, 93, 94, 95, 96, 97, 98, 99, 100, 101, 102, 103, 104, 105, 106, 107, 108, 109, 110, 111, 112, 113, 114, 115, 116, 117, 118, 119, 120, 121, 122, 123, 124, 125, 126, 127, 128, 129, 130, 131, 132, 133, 134, 135, 136, 137, 138, 139, 140, 141, 142, 143, 144, 145, 146, 147, 148, 149, 181, 182, 183, 184, 185, 186, 187, 188, 189] (by decide +kernel) (by decide +kernel)
set_option maxRecDepth 20000 in
theorem gX4_isUnsigned_X4_isTaken : GoodIn wsX4_isUnsigned (wsV RX4 34 RX4 yX4_isTaken wsX4_isTaken) := goodIn_app (goodIn_of _ (by decide +kernel)) ggX4_isUnsigned_X4_isTaken
set_option maxRecDepth 20000 in
theorem ggX4_isUnsigned_X4_isEither : GoodIn wsX4_isUnsigned wsX4_isEither := goodIn_r _ [161, 1, 162, 163, 164, 6, 14, 15, 16, 17, 18, 19, 20, 21, 22, 23, 24, 25, 26, 27, 28, 2, 29, 30, 31, 32, 33, 34, 35, 36, 37, 38, 39, 40, 41, 42, 43, 44, 45, 46, 47, 48, 49, 50, 51, 52, 53, 54, 55, 56, 57, 58, 59, 60, 61, 62, 63, 64, 65, 66, 67, 68, 69, 70, 71, 72, 73, 74, 75, 76, 77, 78, 79, 80, 81, 82, 83, 84, 85, 86, 87, 88, 89, 90, 91, 92, 93, 94, 95, 96, 97, 98, 99, 100, 101, 102, 103, 104, 105, 106, 107, 108, 109, 110, 111, 112, 113, 114, 115, 116, 117, 118, 119, 120, 121, 122, 123, 124, 125, 126, 127, 128, 129, 130, 131, 132, 133, 134, 135, 136, 137, 138, 139, 140, 141, 142, 143, 144, 145, 146, 147, 148, 149, 3, 4, 5, 7, 8, 9, 153, 154, 155, 156, 157, 158, 159, 160, 165, 166, 167, 168, 169, 170, 171, 172, 173, 174, 175, 176, 177, 178, 179, 180, 0, 10, 11, 12, 13, 150, 151, 152, 181, 182, 183, 184, 185, 186, 187, 188, 189] (by decide +kernel) (by decide +kernel)
set_option maxRecDepth 20000 in
theorem gX4_isUnsigned_X4_isEither : GoodIn wsX4_isUnsigned (wsV RX4 38 RX4 yX4_isEither wsX4_isEither) := goodIn_app (goodIn_of _ (by decide +kernel)) ggX4_isUnsigned_X4_isEither
theorem dX4_isUnsigned_0 : decode cX4_isUnsigned 0 = .ok (.aload_n 0, 1) := by decide +kernel
theorem dX4_isUnsigned_1 : decode cX4_isUnsigned 1 = .ok (.getfield 41, 3) := by decide +kernel
theorem dX4_isUnsigned_4 : decode cX4_isUnsigned 4 = .ok (.lookupswitch 104 #[(2, 36), (3, 36), (40, 65)], 36) := by decide +kernel
theorem dX4_isUnsigned_40 : decode cX4_isUnsigned 40 = .ok (.aload_n 0, 1) := by decide +kernel
theorem dX4_isUnsigned_41 : decode cX4_isUnsigned 41 = .ok (.aload_n 0, 1) := by decide +kernel
theorem dX4_isUnsigned_42 : decode cX4_isUnsigned 42 = .ok (.getfield 83, 3) := by decide +kernel
theorem dX4_isUnsigned_45 : decode cX4_isUnsigned 45 = .ok (.iconst 1, 1) := by decide +kernel
theorem dX4_isUnsigned_46 : decode cX4_isUnsigned 46 = .ok (.invokevirtual 61, 3) := by decide +kernel
theorem dX4_isUnsigned_49 : decode cX4_isUnsigned 49 = .ok (.ifCond .eq 18, 3) := by decide +kernel
theorem dX4_isUnsigned_52 : decode cX4_isUnsigned 52 = .ok (.aload_n 0, 1) := by decide +kernel
theorem dX4_isUnsigned_53 : decode cX4_isUnsigned 53 = .ok (.aload_n 0, 1) := by decide +kernel
theorem dX4_isUnsigned_54 : decode cX4_isUnsigned 54 = .ok (.getfield 41, 3) := by decide +kernel
theorem dX4_isUnsigned_57 : decode cX4_isUnsigned 57 = .ok (.invokevirtual 34, 3) := by decide +kernel
theorem dX4_isUnsigned_60 : decode cX4_isUnsigned 60 = .ok (.ifCond .eq 7, 3) := by decide +kernel
theorem dX4_isUnsigned_63 : decode cX4_isUnsigned 63 = .ok (.iconst 1, 1) := by decide +kernel
theorem dX4_isUnsigned_64 : decode cX4_isUnsigned 64 = .ok (.goto 4, 3) := by decide +kernel
theorem dX4_isUnsigned_67 : decode cX4_isUnsigned 67 = .ok (.iconst 0, 1) := by decide +kernel
theorem dX4_isUnsigned_68 : decode cX4_isUnsigned 68 = .ok (.ireturn, 1) := by decide +kernel
theorem dX4_isUnsigned_69 : decode cX4_isUnsigned 69 = .ok (.iload_n 1, 1) := by decide +kernel
theorem dX4_isUnsigned_70 : decode cX4_isUnsigned 70 = .ok (.iconst 5, 1) := by decide +kernel
theorem dX4_isUnsigned_71 : decode cX4_isUnsigned 71 = .ok (.if_icmp .ge 35, 3) := by decide +kernel
theorem dX4_isUnsigned_74 : decode cX4_isUnsigned 74 = .ok (.aload_n 0, 1) := by decide +kernel
theorem dX4_isUnsigned_75 : decode cX4_isUnsigned 75 = .ok (.bipush 40, 2) := by decide +kernel
theorem dX4_isUnsigned_77 : decode cX4_isUnsigned 77 = .ok (.invokevirtual 34, 3) := by decide +kernel
theorem dX4_isUnsigned_80 : decode cX4_isUnsigned 80 = .ok (.ifCond .eq 26, 3) := by decide +kernel
theorem dX4_isUnsigned_83 : decode cX4_isUnsigned 83 = .ok (.aload_n 0, 1) := by decide +kernel
theorem dX4_isUnsigned_84 : decode cX4_isUnsigned 84 = .ok (.iload_n 1, 1) := by decide +kernel
theorem dX4_isUnsigned_85 : decode cX4_isUnsigned 85 = .ok (.iconst 1, 1) := by decide +kernel
theorem dX4_isUnsigned_86 : decode cX4_isUnsigned 86 = .ok (.iadd, 1) := by decide +kernel
theorem dX4_isUnsigned_87 : decode cX4_isUnsigned 87 = .ok (.invokevirtual 38, 3) := by decide +kernel
theorem dX4_isUnsigned_90 : decode cX4_isUnsigned 90 = .ok (.ifCond .eq 16, 3) := by decide +kernel
theorem dX4_isUnsigned_93 : decode cX4_isUnsigned 93 = .ok (.aload_n 0, 1) := by decide +kernel
theorem dX4_isUnsigned_94 : decode cX4_isUnsigned 94 = .ok (.bipush 41, 2) := by decide +kernel
theorem dX4_isUnsigned_96 : decode cX4_isUnsigned 96 = .ok (.invokevirtual 34, 3) := by decide +kernel
theorem dX4_isUnsigned_99 : decode cX4_isUnsigned 99 = .ok (.ifCond .eq 7, 3) := by decide +kernel
theorem dX4_isUnsigned_102 : decode cX4_isUnsigned 102 = .ok (.iconst 1, 1) := by decide +kernel
theorem dX4_isUnsigned_103 : decode cX4_isUnsigned 103 = .ok (.goto 4, 3) := by decide +kernel
theorem dX4_isUnsigned_106 : decode cX4_isUnsigned 106 = .ok (.iconst 0, 1) := by decide +kernel
theorem dX4_isUnsigned_107 : decode cX4_isUnsigned 107 = .ok (.ireturn, 1) := by decide +kernel
theorem dX4_isUnsigned_108 : decode cX4_isUnsigned 108 = .ok (.iconst 0, 1) := by decide +kernel
theorem dX4_isUnsigned_109 : decode cX4_isUnsigned 109 = .ok (.ireturn, 1) := by decide +kernel
theorem dX4_isNoted_0 : decode cX4_isNoted 0 = .ok (.iconst 0, 1) := by decide +kernel
theorem dX4_isNoted_1 : decode cX4_isNoted 1 = .ok (.istore_n 3, 1) := by decide +kernel
theorem dX4_isNoted_2 : decode cX4_isNoted 2 = .ok (.iload_n 3, 1) := by decide +kernel
theorem dX4_isNoted_3 : decode cX4_isNoted 3 = .ok (.iload_n 2, 1) := by decide +kernel
theorem dX4_isNoted_4 : decode cX4_isNoted 4 = .ok (.if_icmp .ge 43, 3) := by decide +kernel
theorem dX4_isNoted_7 : decode cX4_isNoted 7 = .ok (.aload_n 0, 1) := by decide +kernel
theorem dX4_isNoted_8 : decode cX4_isNoted 8 = .ok (.getfield 28, 3) := by decide +kernel
theorem dX4_isNoted_11 : decode cX4_isNoted 11 = .ok (.aload_n 0, 1) := by decide +kernel
theorem dX4_isNoted_12 : decode cX4_isNoted 12 = .ok (.getfield 15, 3) := by decide +kernel
theorem dX4_isNoted_15 : decode cX4_isNoted 15 = .ok (.arraylength, 1) := by decide +kernel
theorem dX4_isNoted_16 : decode cX4_isNoted 16 = .ok (.if_icmp .lt 5, 3) := by decide +kernel
theorem dX4_isNoted_19 : decode cX4_isNoted 19 = .ok (.iconst 0, 1) := by decide +kernel
theorem dX4_isNoted_20 : decode cX4_isNoted 20 = .ok (.ireturn, 1) := by decide +kernel
theorem dX4_isNoted_21 : decode cX4_isNoted 21 = .ok (.aload_n 0, 1) := by decide +kernel
theorem dX4_isNoted_22 : decode cX4_isNoted 22 = .ok (.getfield 15, 3) := by decide +kernel
theorem dX4_isNoted_25 : decode cX4_isNoted 25 = .ok (.aload_n 0, 1) := by decide +kernel
theorem dX4_isNoted_26 : decode cX4_isNoted 26 = .ok (.getfield 28, 3) := by decide +kernel
theorem dX4_isNoted_29 : decode cX4_isNoted 29 = .ok (.iload_n 1, 1) := by decide +kernel
theorem dX4_isNoted_30 : decode cX4_isNoted 30 = .ok (.iastore, 1) := by decide +kernel
theorem dX4_isNoted_31 : decode cX4_isNoted 31 = .ok (.aload_n 0, 1) := by decide +kernel
theorem dX4_isNoted_32 : decode cX4_isNoted 32 = .ok (.dup, 1) := by decide +kernel
theorem dX4_isNoted_33 : decode cX4_isNoted 33 = .ok (.getfield 28, 3) := by decide +kernel
theorem dX4_isNoted_36 : decode cX4_isNoted 36 = .ok (.iconst 1, 1) := by decide +kernel
theorem dX4_isNoted_37 : decode cX4_isNoted 37 = .ok (.iadd, 1) := by decide +kernel
theorem dX4_isNoted_38 : decode cX4_isNoted 38 = .ok (.putfield 28, 3) := by decide +kernel
theorem dX4_isNoted_41 : decode cX4_isNoted 41 = .ok (.iinc 3 1, 3) := by decide +kernel
theorem dX4_isNoted_44 : decode cX4_isNoted 44 = .ok (.goto (-42), 3) := by decide +kernel
theorem dX4_isNoted_47 : decode cX4_isNoted 47 = .ok (.iconst 1, 1) := by decide +kernel
theorem dX4_isNoted_48 : decode cX4_isNoted 48 = .ok (.ireturn, 1) := by decide +kernel
set_option maxRecDepth 20000 in
theorem ggX4_advance_X4_isLetter : GoodIn wsX4_advance wsX4_isLetter := goodIn_r _ [9] (by decide +kernel) (by decide +kernel)
set_option maxRecDepth 20000 in
theorem gX4_advance_X4_isLetter : GoodIn wsX4_advance (va_wsS RX4 86 yX4_isLetter wsX4_isLetter) := goodIn_app (goodIn_of _ (by decide +kernel)) ggX4_advance_X4_isLetter
set_option maxRecDepth 20000 in
theorem ggX4_advance_X4_readWord : GoodIn wsX4_advance wsX4_readWord := goodIn_r _ [13, 1, 2, 3, 4, 5, 14, 6, 7, 8, 9, 15, 16, 17, 18, 19, 20, 21, 22, 23, 24, 25, 26, 27, 28, 29, 30, 31, 32, 33, 34, 35, 36, 37, 38, 39, 40, 41, 42, 43, 44, 45, 46, 47, 48, 49, 50, 51, 52, 53, 54, 55, 56, 57, 58, 59, 60, 61, 62, 63, 64, 65, 66, 67, 136, 137, 138, 139, 140, 141, 142, 143, 144] (by decide +kernel) (by decide +kernel)
set_option maxRecDepth 20000 in
theorem gX4_advance_X4_readWord : GoodIn wsX4_advance (wsV RX4 89 RX4 yX4_readWord wsX4_readWord) := goodIn_app (goodIn_of _ (by decide +kernel)) ggX4_advance_X4_readWord
set_option maxRecDepth 20000 in
theorem ggX4_advance_X4_isDigit : GoodIn wsX4_advance wsX4_isDigit := goodIn_r _ [70] (by decide +kernel) (by decide +kernel)
set_option maxRecDepth 20000 in
theorem gX4_advance_X4_isDigit : GoodIn wsX4_advance (va_wsS RX4 92 yX4_isDigit wsX4_isDigit) := goodIn_app (goodIn_of _ (by decide +kernel)) ggX4_advance_X4_isDigit
set_option maxRecDepth 20000 in
theorem ggX4_advance_X4_readNumber : GoodIn wsX4_advance wsX4_readNumber := goodIn_r _ [74, 14, 1, 2, 3, 5, 68, 69, 8, 70, 136, 137, 138, 139, 140, 141, 142, 143, 144] (by decide +kernel) (by decide +kernel)
set_option maxRecDepth 20000 in
theorem gX4_advance_X4_readNumber : GoodIn wsX4_advance (wsV RX4 95 RX4 yX4_readNumber wsX4_readNumber) := goodIn_app (goodIn_of _ (by decide +kernel)) ggX4_advance_X4_readNumber
set_option maxRecDepth 20000 in
theorem ggX4_advance_J0_indexOf_0f7a4 : GoodIn wsX4_advance wsJ0_indexOf_0f7a4 := goodIn_r _ [78, 79, 80, 81, 22, 82, 24, 35, 36, 37, 38, 29, 30, 83, 20, 21, 23, 25, 26, 27, 28, 84, 85, 41, 86, 87, 88, 89, 90, 91, 92, 93, 94, 95, 96, 97, 98, 99, 100, 101, 53, 102, 103, 104, 105, 106, 107, 108, 109, 110, 111, 58, 59, 60, 112, 113, 114, 46, 115, 116, 49, 117, 118, 119, 120, 62, 63, 64, 65, 66, 67, 121, 122, 123, 124, 125, 126, 127, 128, 129, 130, 131, 132, 133, 134, 135] (by decide +kernel) (by decide +kernel)
set_option maxRecDepth 20000 in
theorem gX4_advance_J0_indexOf_0f7a4 : GoodIn wsX4_advance (wsV RX4 100 RJ0 yJ0_indexOf_0f7a4 wsJ0_indexOf_0f7a4) := goodIn_app (goodIn_of _ (by decide +kernel)) ggX4_advance_J0_indexOf_0f7a4
theorem dX4_advance_0 : decode cX4_advance 0 = .ok (.aload_n 0, 1) := by decide +kernel
theorem dX4_advance_1 : decode cX4_advance 1 = .ok (.getfield 25, 3) := by decide +kernel
theorem dX4_advance_4 : decode cX4_advance 4 = .ok (.aload_n 0, 1) := by decide +kernel
theorem dX4_advance_5 : decode cX4_advance 5 = .ok (.getfield 21, 3) := by decide +kernel
theorem dX4_advance_8 : decode cX4_advance 8 = .ok (.if_icmp .ge 44, 3) := by decide +kernel
theorem dX4_advance_11 : decode cX4_advance 11 = .ok (.aload_n 0, 1) := by decide +kernel
theorem dX4_advance_12 : decode cX4_advance 12 = .ok (.getfield 9, 3) := by decide +kernel
theorem dX4_advance_15 : decode cX4_advance 15 = .ok (.aload_n 0, 1) := by decide +kernel
theorem dX4_advance_16 : decode cX4_advance 16 = .ok (.getfield 25, 3) := by decide +kernel
theorem dX4_advance_19 : decode cX4_advance 19 = .ok (.iaload, 1) := by decide +kernel
theorem dX4_advance_20 : decode cX4_advance 20 = .ok (.bipush 32, 2) := by decide +kernel
theorem dX4_advance_22 : decode cX4_advance 22 = .ok (.if_icmp .eq 17, 3) := by decide +kernel
theorem dX4_advance_25 : decode cX4_advance 25 = .ok (.aload_n 0, 1) := by decide +kernel
theorem dX4_advance_26 : decode cX4_advance 26 = .ok (.getfield 9, 3) := by decide +kernel
theorem dX4_advance_29 : decode cX4_advance 29 = .ok (.aload_n 0, 1) := by decide +kernel
theorem dX4_advance_30 : decode cX4_advance 30 = .ok (.getfield 25, 3) := by decide +kernel
theorem dX4_advance_33 : decode cX4_advance 33 = .ok (.iaload, 1) := by decide +kernel
theorem dX4_advance_34 : decode cX4_advance 34 = .ok (.bipush 10, 2) := by decide +kernel
theorem dX4_advance_36 : decode cX4_advance 36 = .ok (.if_icmp .ne 16, 3) := by decide +kernel
theorem dX4_advance_39 : decode cX4_advance 39 = .ok (.aload_n 0, 1) := by decide +kernel
theorem dX4_advance_40 : decode cX4_advance 40 = .ok (.dup, 1) := by decide +kernel
theorem dX4_advance_41 : decode cX4_advance 41 = .ok (.getfield 25, 3) := by decide +kernel
theorem dX4_advance_44 : decode cX4_advance 44 = .ok (.iconst 1, 1) := by decide +kernel
theorem dX4_advance_45 : decode cX4_advance 45 = .ok (.iadd, 1) := by decide +kernel
theorem dX4_advance_46 : decode cX4_advance 46 = .ok (.putfield 25, 3) := by decide +kernel
theorem dX4_advance_49 : decode cX4_advance 49 = .ok (.goto (-49), 3) := by decide +kernel
theorem dX4_advance_52 : decode cX4_advance 52 = .ok (.aload_n 0, 1) := by decide +kernel
theorem dX4_advance_53 : decode cX4_advance 53 = .ok (.aload_n 0, 1) := by decide +kernel
theorem dX4_advance_54 : decode cX4_advance 54 = .ok (.getfield 25, 3) := by decide +kernel
theorem dX4_advance_57 : decode cX4_advance 57 = .ok (.putfield 44, 3) := by decide +kernel
theorem dX4_advance_60 : decode cX4_advance 60 = .ok (.aload_n 0, 1) := by decide +kernel
theorem dX4_advance_61 : decode cX4_advance 61 = .ok (.getfield 25, 3) := by decide +kernel
theorem dX4_advance_64 : decode cX4_advance 64 = .ok (.aload_n 0, 1) := by decide +kernel
theorem dX4_advance_65 : decode cX4_advance 65 = .ok (.getfield 21, 3) := by decide +kernel
theorem dX4_advance_68 : decode cX4_advance 68 = .ok (.if_icmp .lt 11, 3) := by decide +kernel
theorem dX4_advance_71 : decode cX4_advance 71 = .ok (.aload_n 0, 1) := by decide +kernel
theorem dX4_advance_72 : decode cX4_advance 72 = .ok (.iconst 0, 1) := by decide +kernel
theorem dX4_advance_73 : decode cX4_advance 73 = .ok (.putfield 41, 3) := by decide +kernel
theorem dX4_advance_76 : decode cX4_advance 76 = .ok (.goto 92, 3) := by decide +kernel
theorem dX4_advance_79 : decode cX4_advance 79 = .ok (.aload_n 0, 1) := by decide +kernel
theorem dX4_advance_80 : decode cX4_advance 80 = .ok (.getfield 9, 3) := by decide +kernel
theorem dX4_advance_83 : decode cX4_advance 83 = .ok (.aload_n 0, 1) := by decide +kernel
theorem dX4_advance_84 : decode cX4_advance 84 = .ok (.getfield 25, 3) := by decide +kernel
theorem dX4_advance_87 : decode cX4_advance 87 = .ok (.iaload, 1) := by decide +kernel
theorem dX4_advance_88 : decode cX4_advance 88 = .ok (.invokestatic 86, 3) := by decide +kernel
theorem dX4_advance_91 : decode cX4_advance 91 = .ok (.ifCond .eq 10, 3) := by decide +kernel
theorem dX4_advance_94 : decode cX4_advance 94 = .ok (.aload_n 0, 1) := by decide +kernel
theorem dX4_advance_95 : decode cX4_advance 95 = .ok (.invokevirtual 89, 3) := by decide +kernel
theorem dX4_advance_98 : decode cX4_advance 98 = .ok (.goto 70, 3) := by decide +kernel
theorem dX4_advance_101 : decode cX4_advance 101 = .ok (.aload_n 0, 1) := by decide +kernel
theorem dX4_advance_102 : decode cX4_advance 102 = .ok (.getfield 9, 3) := by decide +kernel
theorem dX4_advance_105 : decode cX4_advance 105 = .ok (.aload_n 0, 1) := by decide +kernel
theorem dX4_advance_106 : decode cX4_advance 106 = .ok (.getfield 25, 3) := by decide +kernel
theorem dX4_advance_109 : decode cX4_advance 109 = .ok (.iaload, 1) := by decide +kernel
theorem dX4_advance_110 : decode cX4_advance 110 = .ok (.invokestatic 92, 3) := by decide +kernel
theorem dX4_advance_113 : decode cX4_advance 113 = .ok (.ifCond .eq 10, 3) := by decide +kernel
theorem dX4_advance_116 : decode cX4_advance 116 = .ok (.aload_n 0, 1) := by decide +kernel
theorem dX4_advance_117 : decode cX4_advance 117 = .ok (.invokevirtual 95, 3) := by decide +kernel
theorem dX4_advance_120 : decode cX4_advance 120 = .ok (.goto 48, 3) := by decide +kernel
theorem dX4_advance_123 : decode cX4_advance 123 = .ok (.aload_n 0, 1) := by decide +kernel
theorem dX4_advance_124 : decode cX4_advance 124 = .ok (.ldc 98, 2) := by decide +kernel
theorem dX4_advance_126 : decode cX4_advance 126 = .ok (.aload_n 0, 1) := by decide +kernel
theorem dX4_advance_127 : decode cX4_advance 127 = .ok (.getfield 9, 3) := by decide +kernel
theorem dX4_advance_130 : decode cX4_advance 130 = .ok (.aload_n 0, 1) := by decide +kernel
theorem dX4_advance_131 : decode cX4_advance 131 = .ok (.getfield 25, 3) := by decide +kernel
theorem dX4_advance_134 : decode cX4_advance 134 = .ok (.iaload, 1) := by decide +kernel
theorem dX4_advance_135 : decode cX4_advance 135 = .ok (.i2c, 1) := by decide +kernel
theorem dX4_advance_136 : decode cX4_advance 136 = .ok (.invokevirtual 100, 3) := by decide +kernel
theorem dX4_advance_139 : decode cX4_advance 139 = .ok (.ifCond .lt 15, 3) := by decide +kernel
theorem dX4_advance_142 : decode cX4_advance 142 = .ok (.aload_n 0, 1) := by decide +kernel
theorem dX4_advance_143 : decode cX4_advance 143 = .ok (.getfield 9, 3) := by decide +kernel
theorem dX4_advance_146 : decode cX4_advance 146 = .ok (.aload_n 0, 1) := by decide +kernel
theorem dX4_advance_147 : decode cX4_advance 147 = .ok (.getfield 25, 3) := by decide +kernel
theorem dX4_advance_150 : decode cX4_advance 150 = .ok (.iaload, 1) := by decide +kernel
theorem dX4_advance_151 : decode cX4_advance 151 = .ok (.goto 4, 3) := by decide +kernel
theorem dX4_advance_154 : decode cX4_advance 154 = .ok (.iconst 1, 1) := by decide +kernel
theorem dX4_advance_155 : decode cX4_advance 155 = .ok (.putfield 41, 3) := by decide +kernel
theorem dX4_advance_158 : decode cX4_advance 158 = .ok (.aload_n 0, 1) := by decide +kernel
theorem dX4_advance_159 : decode cX4_advance 159 = .ok (.dup, 1) := by decide +kernel
theorem dX4_advance_160 : decode cX4_advance 160 = .ok (.getfield 25, 3) := by decide +kernel
theorem dX4_advance_163 : decode cX4_advance 163 = .ok (.iconst 1, 1) := by decide +kernel
theorem dX4_advance_164 : decode cX4_advance 164 = .ok (.iadd, 1) := by decide +kernel
theorem dX4_advance_165 : decode cX4_advance 165 = .ok (.putfield 25, 3) := by decide +kernel
theorem dX4_advance_168 : decode cX4_advance 168 = .ok (.return_, 1) := by decide +kernel
theorem dX4_isLetter_0 : decode cX4_isLetter 0 = .ok (.iload_n 0, 1) := by decide +kernel
theorem dX4_isLetter_1 : decode cX4_isLetter 1 = .ok (.bipush 97, 2) := by decide +kernel
theorem dX4_isLetter_3 : decode cX4_isLetter 3 = .ok (.if_icmp .lt 13, 3) := by decide +kernel
theorem dX4_isLetter_6 : decode cX4_isLetter 6 = .ok (.iload_n 0, 1) := by decide +kernel
theorem dX4_isLetter_7 : decode cX4_isLetter 7 = .ok (.bipush 122, 2) := by decide +kernel
theorem dX4_isLetter_9 : decode cX4_isLetter 9 = .ok (.if_icmp .gt 7, 3) := by decide +kernel
theorem dX4_isLetter_12 : decode cX4_isLetter 12 = .ok (.iconst 1, 1) := by decide +kernel
theorem dX4_isLetter_13 : decode cX4_isLetter 13 = .ok (.goto 4, 3) := by decide +kernel
theorem dX4_isLetter_16 : decode cX4_isLetter 16 = .ok (.iconst 0, 1) := by decide +kernel
theorem dX4_isLetter_17 : decode cX4_isLetter 17 = .ok (.ireturn, 1) := by decide +kernel
theorem dX4_isDigit_0 : decode cX4_isDigit 0 = .ok (.iload_n 0, 1) := by decide +kernel
theorem dX4_isDigit_1 : decode cX4_isDigit 1 = .ok (.bipush 48, 2) := by decide +kernel
theorem dX4_isDigit_3 : decode cX4_isDigit 3 = .ok (.if_icmp .lt 13, 3) := by decide +kernel
theorem dX4_isDigit_6 : decode cX4_isDigit 6 = .ok (.iload_n 0, 1) := by decide +kernel
theorem dX4_isDigit_7 : decode cX4_isDigit 7 = .ok (.bipush 57, 2) := by decide +kernel
theorem dX4_isDigit_9 : decode cX4_isDigit 9 = .ok (.if_icmp .gt 7, 3) := by decide +kernel
theorem dX4_isDigit_12 : decode cX4_isDigit 12 = .ok (.iconst 1, 1) := by decide +kernel
theorem dX4_isDigit_13 : decode cX4_isDigit 13 = .ok (.goto 4, 3) := by decide +kernel
theorem dX4_isDigit_16 : decode cX4_isDigit 16 = .ok (.iconst 0, 1) := by decide +kernel
theorem dX4_isDigit_17 : decode cX4_isDigit 17 = .ok (.ireturn, 1) := by decide +kernel
set_option maxRecDepth 20000 in
theorem ggX4_readWord_X4_isLetter : GoodIn wsX4_readWord wsX4_isLetter := goodIn_r _ [10] (by decide +kernel) (by decide +kernel)
set_option maxRecDepth 20000 in
theorem gX4_readWord_X4_isLetter : GoodIn wsX4_readWord (va_wsS RX4 86 yX4_isLetter wsX4_isLetter) := goodIn_app (goodIn_of _ (by decide +kernel)) ggX4_readWord_X4_isLetter
set_option maxRecDepth 20000 in
theorem ggX4_readWord_X4_wordNumber : GoodIn wsX4_readWord wsX4_wordNumber := goodIn_r _ [14, 3, 15, 16, 17, 18, 19, 20, 21, 22, 23, 24, 25, 26, 27, 28, 29, 30, 31, 32, 33, 34, 35, 36, 37, 38, 39, 40, 41, 42, 43, 44, 45, 46, 47, 48, 49, 50, 51, 52, 53, 54, 55, 56, 57, 58, 59, 60, 61, 62, 63, 64, 65, 66, 67, 68, 69, 70, 71, 72] (by decide +kernel) (by decide +kernel)
set_option maxRecDepth 20000 in
theorem gX4_readWord_X4_wordNumber : GoodIn wsX4_readWord (wsV RX4 106 RX4 yX4_wordNumber wsX4_wordNumber) := goodIn_app (goodIn_of _ (by decide +kernel)) ggX4_readWord_X4_wordNumber
theorem dX4_readWord_0 : decode cX4_readWord 0 = .ok (.aload_n 0, 1) := by decide +kernel
theorem dX4_readWord_1 : decode cX4_readWord 1 = .ok (.getfield 25, 3) := by decide +kernel
theorem dX4_readWord_4 : decode cX4_readWord 4 = .ok (.aload_n 0, 1) := by decide +kernel
theorem dX4_readWord_5 : decode cX4_readWord 5 = .ok (.getfield 21, 3) := by decide +kernel
theorem dX4_readWord_8 : decode cX4_readWord 8 = .ok (.if_icmp .ge 31, 3) := by decide +kernel
theorem dX4_readWord_11 : decode cX4_readWord 11 = .ok (.aload_n 0, 1) := by decide +kernel
theorem dX4_readWord_12 : decode cX4_readWord 12 = .ok (.getfield 9, 3) := by decide +kernel
theorem dX4_readWord_15 : decode cX4_readWord 15 = .ok (.aload_n 0, 1) := by decide +kernel
theorem dX4_readWord_16 : decode cX4_readWord 16 = .ok (.getfield 25, 3) := by decide +kernel
theorem dX4_readWord_19 : decode cX4_readWord 19 = .ok (.iaload, 1) := by decide +kernel
theorem dX4_readWord_20 : decode cX4_readWord 20 = .ok (.invokestatic 86, 3) := by decide +kernel
theorem dX4_readWord_23 : decode cX4_readWord 23 = .ok (.ifCond .eq 16, 3) := by decide +kernel
theorem dX4_readWord_26 : decode cX4_readWord 26 = .ok (.aload_n 0, 1) := by decide +kernel
theorem dX4_readWord_27 : decode cX4_readWord 27 = .ok (.dup, 1) := by decide +kernel
theorem dX4_readWord_28 : decode cX4_readWord 28 = .ok (.getfield 25, 3) := by decide +kernel
theorem dX4_readWord_31 : decode cX4_readWord 31 = .ok (.iconst 1, 1) := by decide +kernel
theorem dX4_readWord_32 : decode cX4_readWord 32 = .ok (.iadd, 1) := by decide +kernel
theorem dX4_readWord_33 : decode cX4_readWord 33 = .ok (.putfield 25, 3) := by decide +kernel
theorem dX4_readWord_36 : decode cX4_readWord 36 = .ok (.goto (-36), 3) := by decide +kernel
theorem dX4_readWord_39 : decode cX4_readWord 39 = .ok (.aload_n 0, 1) := by decide +kernel
theorem dX4_readWord_40 : decode cX4_readWord 40 = .ok (.aload_n 0, 1) := by decide +kernel
theorem dX4_readWord_41 : decode cX4_readWord 41 = .ok (.getfield 44, 3) := by decide +kernel
theorem dX4_readWord_44 : decode cX4_readWord 44 = .ok (.aload_n 0, 1) := by decide +kernel
theorem dX4_readWord_45 : decode cX4_readWord 45 = .ok (.getfield 25, 3) := by decide +kernel
theorem dX4_readWord_48 : decode cX4_readWord 48 = .ok (.aload_n 0, 1) := by decide +kernel
theorem dX4_readWord_49 : decode cX4_readWord 49 = .ok (.getfield 44, 3) := by decide +kernel
theorem dX4_readWord_52 : decode cX4_readWord 52 = .ok (.isub, 1) := by decide +kernel
theorem dX4_readWord_53 : decode cX4_readWord 53 = .ok (.invokevirtual 106, 3) := by decide +kernel
theorem dX4_readWord_56 : decode cX4_readWord 56 = .ok (.istore_n 1, 1) := by decide +kernel
theorem dX4_readWord_57 : decode cX4_readWord 57 = .ok (.iload_n 1, 1) := by decide +kernel
theorem dX4_readWord_58 : decode cX4_readWord 58 = .ok (.iconst (-1), 1) := by decide +kernel
theorem dX4_readWord_59 : decode cX4_readWord 59 = .ok (.if_icmp .ne 11, 3) := by decide +kernel
theorem dX4_readWord_62 : decode cX4_readWord 62 = .ok (.aload_n 0, 1) := by decide +kernel
theorem dX4_readWord_63 : decode cX4_readWord 63 = .ok (.iconst 1, 1) := by decide +kernel
theorem dX4_readWord_64 : decode cX4_readWord 64 = .ok (.putfield 41, 3) := by decide +kernel
theorem dX4_readWord_67 : decode cX4_readWord 67 = .ok (.goto 34, 3) := by decide +kernel
theorem dX4_readWord_70 : decode cX4_readWord 70 = .ok (.iload_n 1, 1) := by decide +kernel
theorem dX4_readWord_71 : decode cX4_readWord 71 = .ok (.bipush 6, 2) := by decide +kernel
theorem dX4_readWord_73 : decode cX4_readWord 73 = .ok (.if_icmp .ge 13, 3) := by decide +kernel
theorem dX4_readWord_76 : decode cX4_readWord 76 = .ok (.aload_n 0, 1) := by decide +kernel
theorem dX4_readWord_77 : decode cX4_readWord 77 = .ok (.iconst 4, 1) := by decide +kernel
theorem dX4_readWord_78 : decode cX4_readWord 78 = .ok (.iload_n 1, 1) := by decide +kernel
theorem dX4_readWord_79 : decode cX4_readWord 79 = .ok (.iadd, 1) := by decide +kernel
theorem dX4_readWord_80 : decode cX4_readWord 80 = .ok (.putfield 41, 3) := by decide +kernel
theorem dX4_readWord_83 : decode cX4_readWord 83 = .ok (.goto 18, 3) := by decide +kernel
theorem dX4_readWord_86 : decode cX4_readWord 86 = .ok (.aload_n 0, 1) := by decide +kernel
theorem dX4_readWord_87 : decode cX4_readWord 87 = .ok (.iconst 3, 1) := by decide +kernel
theorem dX4_readWord_88 : decode cX4_readWord 88 = .ok (.putfield 41, 3) := by decide +kernel
theorem dX4_readWord_91 : decode cX4_readWord 91 = .ok (.aload_n 0, 1) := by decide +kernel
theorem dX4_readWord_92 : decode cX4_readWord 92 = .ok (.iconst (-1), 1) := by decide +kernel
theorem dX4_readWord_93 : decode cX4_readWord 93 = .ok (.iload_n 1, 1) := by decide +kernel
theorem dX4_readWord_94 : decode cX4_readWord 94 = .ok (.bipush 6, 2) := by decide +kernel
theorem dX4_readWord_96 : decode cX4_readWord 96 = .ok (.isub, 1) := by decide +kernel
theorem dX4_readWord_97 : decode cX4_readWord 97 = .ok (.isub, 1) := by decide +kernel
theorem dX4_readWord_98 : decode cX4_readWord 98 = .ok (.putfield 83, 3) := by decide +kernel
theorem dX4_readWord_101 : decode cX4_readWord 101 = .ok (.return_, 1) := by decide +kernel
set_option maxRecDepth 20000 in
theorem ggX4_wordNumber_J0_length_8abf5 : GoodIn wsX4_wordNumber wsJ0_length_8abf5 := goodIn_r _ [6, 7, 8, 9, 10, 5, 11, 12, 13] (by decide +kernel) (by decide +kernel)
set_option maxRecDepth 20000 in
theorem gX4_wordNumber_J0_length_8abf5 : GoodIn wsX4_wordNumber (wsV RX4 112 RJ0 yJ0_length_8abf5 wsJ0_length_8abf5) := goodIn_app (goodIn_of _ (by decide +kernel)) ggX4_wordNumber_J0_length_8abf5
set_option maxRecDepth 20000 in
theorem ggX4_wordNumber_J0_charAt_5068e : GoodIn wsX4_wordNumber wsJ0_charAt_5068e := goodIn_r _ [17, 7, 18, 19, 20, 5, 21, 12, 13, 22, 23, 24, 25, 26, 27, 28, 29, 30, 31, 32, 33, 34, 35, 36, 37, 38, 39, 40, 41, 42, 43, 44, 45, 46, 47, 48, 49, 50] (by decide +kernel) (by decide +kernel)
set_option maxRecDepth 20000 in
theorem gX4_wordNumber_J0_charAt_5068e : GoodIn wsX4_wordNumber (wsV RX4 116 RJ0 yJ0_charAt_5068e wsJ0_charAt_5068e) := goodIn_app (goodIn_of _ (by decide +kernel)) ggX4_wordNumber_J0_charAt_5068e
theorem dX4_wordNumber_0 : decode cX4_wordNumber 0 = .ok (.iconst 0, 1) := by decide +kernel
theorem dX4_wordNumber_1 : decode cX4_wordNumber 1 = .ok (.istore_n 3, 1) := by decide +kernel
theorem dX4_wordNumber_2 : decode cX4_wordNumber 2 = .ok (.iconst 0, 1) := by decide +kernel
theorem dX4_wordNumber_3 : decode cX4_wordNumber 3 = .ok (.istore 4, 2) := by decide +kernel
theorem dX4_wordNumber_5 : decode cX4_wordNumber 5 = .ok (.iconst 0, 1) := by decide +kernel
theorem dX4_wordNumber_6 : decode cX4_wordNumber 6 = .ok (.istore 5, 2) := by decide +kernel
theorem dX4_wordNumber_8 : decode cX4_wordNumber 8 = .ok (.iconst 0, 1) := by decide +kernel
theorem dX4_wordNumber_9 : decode cX4_wordNumber 9 = .ok (.istore 6, 2) := by decide +kernel
theorem dX4_wordNumber_11 : decode cX4_wordNumber 11 = .ok (.iload 6, 2) := by decide +kernel
theorem dX4_wordNumber_13 : decode cX4_wordNumber 13 = .ok (.ldc 110, 2) := by decide +kernel
theorem dX4_wordNumber_15 : decode cX4_wordNumber 15 = .ok (.invokevirtual 112, 3) := by decide +kernel
theorem dX4_wordNumber_18 : decode cX4_wordNumber 18 = .ok (.if_icmp .ge 84, 3) := by decide +kernel
theorem dX4_wordNumber_21 : decode cX4_wordNumber 21 = .ok (.ldc 110, 2) := by decide +kernel
theorem dX4_wordNumber_23 : decode cX4_wordNumber 23 = .ok (.iload 6, 2) := by decide +kernel
theorem dX4_wordNumber_25 : decode cX4_wordNumber 25 = .ok (.invokevirtual 116, 3) := by decide +kernel
theorem dX4_wordNumber_28 : decode cX4_wordNumber 28 = .ok (.istore 7, 2) := by decide +kernel
theorem dX4_wordNumber_30 : decode cX4_wordNumber 30 = .ok (.iload 7, 2) := by decide +kernel
theorem dX4_wordNumber_32 : decode cX4_wordNumber 32 = .ok (.bipush 32, 2) := by decide +kernel
theorem dX4_wordNumber_34 : decode cX4_wordNumber 34 = .ok (.if_icmp .ne 29, 3) := by decide +kernel
theorem dX4_wordNumber_37 : decode cX4_wordNumber 37 = .ok (.iload 4, 2) := by decide +kernel
theorem dX4_wordNumber_39 : decode cX4_wordNumber 39 = .ok (.iload_n 2, 1) := by decide +kernel
theorem dX4_wordNumber_40 : decode cX4_wordNumber 40 = .ok (.if_icmp .ne 11, 3) := by decide +kernel
theorem dX4_wordNumber_43 : decode cX4_wordNumber 43 = .ok (.iload 5, 2) := by decide +kernel
theorem dX4_wordNumber_45 : decode cX4_wordNumber 45 = .ok (.iload_n 2, 1) := by decide +kernel
theorem dX4_wordNumber_46 : decode cX4_wordNumber 46 = .ok (.if_icmp .ne 5, 3) := by decide +kernel
theorem dX4_wordNumber_49 : decode cX4_wordNumber 49 = .ok (.iload_n 3, 1) := by decide +kernel
theorem dX4_wordNumber_50 : decode cX4_wordNumber 50 = .ok (.ireturn, 1) := by decide +kernel
theorem dX4_wordNumber_51 : decode cX4_wordNumber 51 = .ok (.iinc 3 1, 3) := by decide +kernel
theorem dX4_wordNumber_54 : decode cX4_wordNumber 54 = .ok (.iconst 0, 1) := by decide +kernel
theorem dX4_wordNumber_55 : decode cX4_wordNumber 55 = .ok (.istore 4, 2) := by decide +kernel
theorem dX4_wordNumber_57 : decode cX4_wordNumber 57 = .ok (.iconst 0, 1) := by decide +kernel
theorem dX4_wordNumber_58 : decode cX4_wordNumber 58 = .ok (.istore 5, 2) := by decide +kernel
theorem dX4_wordNumber_60 : decode cX4_wordNumber 60 = .ok (.goto 36, 3) := by decide +kernel
theorem dX4_wordNumber_63 : decode cX4_wordNumber 63 = .ok (.iload 4, 2) := by decide +kernel
theorem dX4_wordNumber_65 : decode cX4_wordNumber 65 = .ok (.iload 5, 2) := by decide +kernel
theorem dX4_wordNumber_67 : decode cX4_wordNumber 67 = .ok (.iload_n 2, 1) := by decide +kernel
theorem dX4_wordNumber_68 : decode cX4_wordNumber 68 = .ok (.if_icmp .ge 21, 3) := by decide +kernel
theorem dX4_wordNumber_71 : decode cX4_wordNumber 71 = .ok (.aload_n 0, 1) := by decide +kernel
theorem dX4_wordNumber_72 : decode cX4_wordNumber 72 = .ok (.getfield 9, 3) := by decide +kernel
theorem dX4_wordNumber_75 : decode cX4_wordNumber 75 = .ok (.iload_n 1, 1) := by decide +kernel
theorem dX4_wordNumber_76 : decode cX4_wordNumber 76 = .ok (.iload 5, 2) := by decide +kernel
theorem dX4_wordNumber_78 : decode cX4_wordNumber 78 = .ok (.iadd, 1) := by decide +kernel
theorem dX4_wordNumber_79 : decode cX4_wordNumber 79 = .ok (.iaload, 1) := by decide +kernel
theorem dX4_wordNumber_80 : decode cX4_wordNumber 80 = .ok (.iload 7, 2) := by decide +kernel
theorem dX4_wordNumber_82 : decode cX4_wordNumber 82 = .ok (.if_icmp .ne 7, 3) := by decide +kernel
theorem dX4_wordNumber_85 : decode cX4_wordNumber 85 = .ok (.iconst 1, 1) := by decide +kernel
theorem dX4_wordNumber_86 : decode cX4_wordNumber 86 = .ok (.goto 4, 3) := by decide +kernel
theorem dX4_wordNumber_89 : decode cX4_wordNumber 89 = .ok (.iconst 0, 1) := by decide +kernel
theorem dX4_wordNumber_90 : decode cX4_wordNumber 90 = .ok (.iadd, 1) := by decide +kernel
theorem dX4_wordNumber_91 : decode cX4_wordNumber 91 = .ok (.istore 4, 2) := by decide +kernel
theorem dX4_wordNumber_93 : decode cX4_wordNumber 93 = .ok (.iinc 5 1, 3) := by decide +kernel
theorem dX4_wordNumber_96 : decode cX4_wordNumber 96 = .ok (.iinc 6 1, 3) := by decide +kernel
theorem dX4_wordNumber_99 : decode cX4_wordNumber 99 = .ok (.goto (-88), 3) := by decide +kernel
theorem dX4_wordNumber_102 : decode cX4_wordNumber 102 = .ok (.iconst (-1), 1) := by decide +kernel
theorem dX4_wordNumber_103 : decode cX4_wordNumber 103 = .ok (.ireturn, 1) := by decide +kernel
set_option maxRecDepth 20000 in
theorem ggX4_readNumber_X4_isDigit : GoodIn wsX4_readNumber wsX4_isDigit := goodIn_r _ [9] (by decide +kernel) (by decide +kernel)
set_option maxRecDepth 20000 in
theorem gX4_readNumber_X4_isDigit : GoodIn wsX4_readNumber (va_wsS RX4 92 yX4_isDigit wsX4_isDigit) := goodIn_app (goodIn_of _ (by decide +kernel)) ggX4_readNumber_X4_isDigit
theorem dX4_readNumber_0 : decode cX4_readNumber 0 = .ok (.iconst 0, 1) := by decide +kernel
theorem dX4_readNumber_1 : decode cX4_readNumber 1 = .ok (.istore_n 1, 1) := by decide +kernel
theorem dX4_readNumber_2 : decode cX4_readNumber 2 = .ok (.aload_n 0, 1) := by decide +kernel
theorem dX4_readNumber_3 : decode cX4_readNumber 3 = .ok (.iconst 0, 1) := by decide +kernel
theorem dX4_readNumber_4 : decode cX4_readNumber 4 = .ok (.putfield 83, 3) := by decide +kernel
theorem dX4_readNumber_7 : decode cX4_readNumber 7 = .ok (.aload_n 0, 1) := by decide +kernel
theorem dX4_readNumber_8 : decode cX4_readNumber 8 = .ok (.getfield 25, 3) := by decide +kernel
theorem dX4_readNumber_11 : decode cX4_readNumber 11 = .ok (.aload_n 0, 1) := by decide +kernel
theorem dX4_readNumber_12 : decode cX4_readNumber 12 = .ok (.getfield 21, 3) := by decide +kernel
theorem dX4_readNumber_15 : decode cX4_readNumber 15 = .ok (.if_icmp .ge 70, 3) := by decide +kernel
theorem dX4_readNumber_18 : decode cX4_readNumber 18 = .ok (.aload_n 0, 1) := by decide +kernel
theorem dX4_readNumber_19 : decode cX4_readNumber 19 = .ok (.getfield 9, 3) := by decide +kernel
theorem dX4_readNumber_22 : decode cX4_readNumber 22 = .ok (.aload_n 0, 1) := by decide +kernel
theorem dX4_readNumber_23 : decode cX4_readNumber 23 = .ok (.getfield 25, 3) := by decide +kernel
theorem dX4_readNumber_26 : decode cX4_readNumber 26 = .ok (.iaload, 1) := by decide +kernel
theorem dX4_readNumber_27 : decode cX4_readNumber 27 = .ok (.invokestatic 92, 3) := by decide +kernel
theorem dX4_readNumber_30 : decode cX4_readNumber 30 = .ok (.ifCond .eq 55, 3) := by decide +kernel
theorem dX4_readNumber_33 : decode cX4_readNumber 33 = .ok (.aload_n 0, 1) := by decide +kernel
theorem dX4_readNumber_34 : decode cX4_readNumber 34 = .ok (.iload_n 1, 1) := by decide +kernel
theorem dX4_readNumber_35 : decode cX4_readNumber 35 = .ok (.iconst 4, 1) := by decide +kernel
theorem dX4_readNumber_36 : decode cX4_readNumber 36 = .ok (.if_icmp .ge 26, 3) := by decide +kernel
theorem dX4_readNumber_39 : decode cX4_readNumber 39 = .ok (.aload_n 0, 1) := by decide +kernel
theorem dX4_readNumber_40 : decode cX4_readNumber 40 = .ok (.getfield 83, 3) := by decide +kernel
theorem dX4_readNumber_43 : decode cX4_readNumber 43 = .ok (.bipush 10, 2) := by decide +kernel
theorem dX4_readNumber_45 : decode cX4_readNumber 45 = .ok (.imul, 1) := by decide +kernel
theorem dX4_readNumber_46 : decode cX4_readNumber 46 = .ok (.aload_n 0, 1) := by decide +kernel
theorem dX4_readNumber_47 : decode cX4_readNumber 47 = .ok (.getfield 9, 3) := by decide +kernel
theorem dX4_readNumber_50 : decode cX4_readNumber 50 = .ok (.aload_n 0, 1) := by decide +kernel
theorem dX4_readNumber_51 : decode cX4_readNumber 51 = .ok (.getfield 25, 3) := by decide +kernel
theorem dX4_readNumber_54 : decode cX4_readNumber 54 = .ok (.iaload, 1) := by decide +kernel
theorem dX4_readNumber_55 : decode cX4_readNumber 55 = .ok (.iadd, 1) := by decide +kernel
theorem dX4_readNumber_56 : decode cX4_readNumber 56 = .ok (.bipush 48, 2) := by decide +kernel
theorem dX4_readNumber_58 : decode cX4_readNumber 58 = .ok (.isub, 1) := by decide +kernel
theorem dX4_readNumber_59 : decode cX4_readNumber 59 = .ok (.goto 7, 3) := by decide +kernel
theorem dX4_readNumber_62 : decode cX4_readNumber 62 = .ok (.aload_n 0, 1) := by decide +kernel
theorem dX4_readNumber_63 : decode cX4_readNumber 63 = .ok (.getfield 83, 3) := by decide +kernel
theorem dX4_readNumber_66 : decode cX4_readNumber 66 = .ok (.putfield 83, 3) := by decide +kernel
theorem dX4_readNumber_69 : decode cX4_readNumber 69 = .ok (.iinc 1 1, 3) := by decide +kernel
theorem dX4_readNumber_72 : decode cX4_readNumber 72 = .ok (.aload_n 0, 1) := by decide +kernel
theorem dX4_readNumber_73 : decode cX4_readNumber 73 = .ok (.dup, 1) := by decide +kernel
theorem dX4_readNumber_74 : decode cX4_readNumber 74 = .ok (.getfield 25, 3) := by decide +kernel
theorem dX4_readNumber_77 : decode cX4_readNumber 77 = .ok (.iconst 1, 1) := by decide +kernel
theorem dX4_readNumber_78 : decode cX4_readNumber 78 = .ok (.iadd, 1) := by decide +kernel
theorem dX4_readNumber_79 : decode cX4_readNumber 79 = .ok (.putfield 25, 3) := by decide +kernel
theorem dX4_readNumber_82 : decode cX4_readNumber 82 = .ok (.goto (-75), 3) := by decide +kernel
theorem dX4_readNumber_85 : decode cX4_readNumber 85 = .ok (.aload_n 0, 1) := by decide +kernel
theorem dX4_readNumber_86 : decode cX4_readNumber 86 = .ok (.iload_n 1, 1) := by decide +kernel
theorem dX4_readNumber_87 : decode cX4_readNumber 87 = .ok (.iconst 4, 1) := by decide +kernel
theorem dX4_readNumber_88 : decode cX4_readNumber 88 = .ok (.if_icmp .le 7, 3) := by decide +kernel
theorem dX4_readNumber_91 : decode cX4_readNumber 91 = .ok (.iconst 1, 1) := by decide +kernel
theorem dX4_readNumber_92 : decode cX4_readNumber 92 = .ok (.goto 4, 3) := by decide +kernel
theorem dX4_readNumber_95 : decode cX4_readNumber 95 = .ok (.iconst 2, 1) := by decide +kernel
theorem dX4_readNumber_96 : decode cX4_readNumber 96 = .ok (.putfield 41, 3) := by decide +kernel
theorem dX4_readNumber_99 : decode cX4_readNumber 99 = .ok (.return_, 1) := by decide +kernel
theorem dJ11_isValidCodePoint_9a6ad_0 : decode cJ11_isValidCodePoint_9a6ad 0 = .ok (.iload_n 0, 1) := by decide +kernel
theorem dJ11_isValidCodePoint_9a6ad_1 : decode cJ11_isValidCodePoint_9a6ad 1 = .ok (.bipush 16, 2) := by decide +kernel
theorem dJ11_isValidCodePoint_9a6ad_3 : decode cJ11_isValidCodePoint_9a6ad 3 = .ok (.iushr, 1) := by decide +kernel
theorem dJ11_isValidCodePoint_9a6ad_4 : decode cJ11_isValidCodePoint_9a6ad 4 = .ok (.istore_n 1, 1) := by decide +kernel
theorem dJ11_isValidCodePoint_9a6ad_5 : decode cJ11_isValidCodePoint_9a6ad 5 = .ok (.iload_n 1, 1) := by decide +kernel
theorem dJ11_isValidCodePoint_9a6ad_6 : decode cJ11_isValidCodePoint_9a6ad 6 = .ok (.bipush 17, 2) := by decide +kernel
theorem dJ11_isValidCodePoint_9a6ad_8 : decode cJ11_isValidCodePoint_9a6ad 8 = .ok (.if_icmp .ge 7, 3) := by decide +kernel
theorem dJ11_isValidCodePoint_9a6ad_11 : decode cJ11_isValidCodePoint_9a6ad 11 = .ok (.iconst 1, 1) := by decide +kernel
theorem dJ11_isValidCodePoint_9a6ad_12 : decode cJ11_isValidCodePoint_9a6ad 12 = .ok (.goto 4, 3) := by decide +kernel
theorem dJ11_isValidCodePoint_9a6ad_15 : decode cJ11_isValidCodePoint_9a6ad 15 = .ok (.iconst 0, 1) := by decide +kernel
theorem dJ11_isValidCodePoint_9a6ad_16 : decode cJ11_isValidCodePoint_9a6ad 16 = .ok (.ireturn, 1) := by decide +kernel
theorem dJ11_highSurrogate_5068e_0 : decode cJ11_highSurrogate_5068e 0 = .ok (.iload_n 0, 1) := by decide +kernel
theorem dJ11_highSurrogate_5068e_1 : decode cJ11_highSurrogate_5068e 1 = .ok (.bipush 10, 2) := by decide +kernel
theorem dJ11_highSurrogate_5068e_3 : decode cJ11_highSurrogate_5068e 3 = .ok (.iushr, 1) := by decide +kernel
theorem dJ11_highSurrogate_5068e_4 : decode cJ11_highSurrogate_5068e 4 = .ok (.ldc 110, 2) := by decide +kernel
theorem dJ11_highSurrogate_5068e_6 : decode cJ11_highSurrogate_5068e 6 = .ok (.iadd, 1) := by decide +kernel
theorem dJ11_highSurrogate_5068e_7 : decode cJ11_highSurrogate_5068e 7 = .ok (.i2c, 1) := by decide +kernel
theorem dJ11_highSurrogate_5068e_8 : decode cJ11_highSurrogate_5068e 8 = .ok (.ireturn, 1) := by decide +kernel
theorem dJ11_lowSurrogate_5068e_0 : decode cJ11_lowSurrogate_5068e 0 = .ok (.iload_n 0, 1) := by decide +kernel
theorem dJ11_lowSurrogate_5068e_1 : decode cJ11_lowSurrogate_5068e 1 = .ok (.sipush 1023, 3) := by decide +kernel
theorem dJ11_lowSurrogate_5068e_4 : decode cJ11_lowSurrogate_5068e 4 = .ok (.iand, 1) := by decide +kernel
theorem dJ11_lowSurrogate_5068e_5 : decode cJ11_lowSurrogate_5068e 5 = .ok (.ldc 76, 2) := by decide +kernel
theorem dJ11_lowSurrogate_5068e_7 : decode cJ11_lowSurrogate_5068e 7 = .ok (.iadd, 1) := by decide +kernel
theorem dJ11_lowSurrogate_5068e_8 : decode cJ11_lowSurrogate_5068e 8 = .ok (.i2c, 1) := by decide +kernel
theorem dJ11_lowSurrogate_5068e_9 : decode cJ11_lowSurrogate_5068e 9 = .ok (.ireturn, 1) := by decide +kernel
set_option maxRecDepth 20000 in
theorem ggJ0_length_8abf5_J0_coder_7d493 : GoodIn wsJ0_length_8abf5 wsJ0_coder_7d493 := goodIn_r _ [6, 7, 8] (by decide +kernel) (by decide +kernel)
set_option maxRecDepth 20000 in
theorem gJ0_length_8abf5_J0_coder_7d493 : GoodIn wsJ0_length_8abf5 (wsV RJ0 335 RJ0 yJ0_coder_7d493 wsJ0_coder_7d493) := goodIn_app (goodIn_of _ (by decide +kernel)) ggJ0_length_8abf5_J0_coder_7d493
theorem dJ0_length_8abf5_0 : decode cJ0_length_8abf5 0 = .ok (.aload_n 0, 1) := by decide +kernel
theorem dJ0_length_8abf5_1 : decode cJ0_length_8abf5 1 = .ok (.getfield 9, 3) := by decide +kernel
theorem dJ0_length_8abf5_4 : decode cJ0_length_8abf5 4 = .ok (.arraylength, 1) := by decide +kernel
theorem dJ0_length_8abf5_5 : decode cJ0_length_8abf5 5 = .ok (.aload_n 0, 1) := by decide +kernel
theorem dJ0_length_8abf5_6 : decode cJ0_length_8abf5 6 = .ok (.invokevirtual 335, 3) := by decide +kernel
theorem dJ0_length_8abf5_9 : decode cJ0_length_8abf5 9 = .ok (.ishr, 1) := by decide +kernel
theorem dJ0_length_8abf5_10 : decode cJ0_length_8abf5 10 = .ok (.ireturn, 1) := by decide +kernel
set_option maxRecDepth 20000 in
theorem ggJ0_charAt_5068e_J0_isLatin1_aae02 : GoodIn wsJ0_charAt_5068e wsJ0_isLatin1_aae02 := goodIn_r _ [6, 7, 8] (by decide +kernel) (by decide +kernel)
set_option maxRecDepth 20000 in
theorem gJ0_charAt_5068e_J0_isLatin1_aae02 : GoodIn wsJ0_charAt_5068e (wsV RJ0 492 RJ0 yJ0_isLatin1_aae02 wsJ0_isLatin1_aae02) := goodIn_app (goodIn_of _ (by decide +kernel)) ggJ0_charAt_5068e_J0_isLatin1_aae02
set_option maxRecDepth 20000 in
theorem ggJ0_charAt_5068e_J1_charAt_3b067 : GoodIn wsJ0_charAt_5068e wsJ1_charAt_3b067 := goodIn_r _ [12, 13, 14, 5, 15, 16, 17, 18, 19, 20] (by decide +kernel) (by decide +kernel)
set_option maxRecDepth 20000 in
theorem gJ0_charAt_5068e_J1_charAt_3b067 : GoodIn wsJ0_charAt_5068e (va_wsS RJ0 495 yJ1_charAt_3b067 wsJ1_charAt_3b067) := goodIn_app (goodIn_of _ (by decide +kernel)) ggJ0_charAt_5068e_J1_charAt_3b067
set_option maxRecDepth 20000 in
theorem ggJ0_charAt_5068e_J2_charAt_3b067 : GoodIn wsJ0_charAt_5068e wsJ2_charAt_3b067 := goodIn_r _ [24, 25, 26, 23, 27, 28, 29, 30, 31, 14, 5, 15, 16, 17, 18, 19, 20, 32, 33, 34, 35, 36, 37] (by decide +kernel) (by decide +kernel)
set_option maxRecDepth 20000 in
theorem gJ0_charAt_5068e_J2_charAt_3b067 : GoodIn wsJ0_charAt_5068e (va_wsS RJ0 498 yJ2_charAt_3b067 wsJ2_charAt_3b067) := goodIn_app (goodIn_of _ (by decide +kernel)) ggJ0_charAt_5068e_J2_charAt_3b067
theorem dJ0_charAt_5068e_0 : decode cJ0_charAt_5068e 0 = .ok (.aload_n 0, 1) := by decide +kernel
theorem dJ0_charAt_5068e_1 : decode cJ0_charAt_5068e 1 = .ok (.invokevirtual 492, 3) := by decide +kernel
theorem dJ0_charAt_5068e_4 : decode cJ0_charAt_5068e 4 = .ok (.ifCond .eq 12, 3) := by decide +kernel
theorem dJ0_charAt_5068e_7 : decode cJ0_charAt_5068e 7 = .ok (.aload_n 0, 1) := by decide +kernel
theorem dJ0_charAt_5068e_8 : decode cJ0_charAt_5068e 8 = .ok (.getfield 9, 3) := by decide +kernel
theorem dJ0_charAt_5068e_11 : decode cJ0_charAt_5068e 11 = .ok (.iload_n 1, 1) := by decide +kernel
theorem dJ0_charAt_5068e_12 : decode cJ0_charAt_5068e 12 = .ok (.invokestatic 495, 3) := by decide +kernel
theorem dJ0_charAt_5068e_15 : decode cJ0_charAt_5068e 15 = .ok (.ireturn, 1) := by decide +kernel
theorem dJ0_charAt_5068e_16 : decode cJ0_charAt_5068e 16 = .ok (.aload_n 0, 1) := by decide +kernel
theorem dJ0_charAt_5068e_17 : decode cJ0_charAt_5068e 17 = .ok (.getfield 9, 3) := by decide +kernel
theorem dJ0_charAt_5068e_20 : decode cJ0_charAt_5068e 20 = .ok (.iload_n 1, 1) := by decide +kernel
theorem dJ0_charAt_5068e_21 : decode cJ0_charAt_5068e 21 = .ok (.invokestatic 498, 3) := by decide +kernel
theorem dJ0_charAt_5068e_24 : decode cJ0_charAt_5068e 24 = .ok (.ireturn, 1) := by decide +kernel
set_option maxRecDepth 20000 in
theorem ggJ0_indexOf_0f7a4_J0_indexOf_7cf53 : GoodIn wsJ0_indexOf_0f7a4 wsJ0_indexOf_7cf53 := goodIn_r _ [5, 6, 7, 8, 9, 4, 10, 11, 12, 13, 14, 15, 16, 17, 18, 19, 20, 21, 22, 23, 24, 25, 26, 27, 28, 29, 30, 31, 32, 33, 34, 35, 36, 37, 38, 39, 40, 41, 42, 43, 44, 45, 46, 47, 48, 49, 50, 51, 52, 53, 54, 55, 56, 57, 58, 59, 60, 61, 62, 63, 64, 65, 66, 67, 68, 69, 70, 71, 72, 73, 74, 75, 76, 77, 78, 79, 80, 81, 82, 83, 84, 85] (by decide +kernel) (by decide +kernel)
set_option maxRecDepth 20000 in
theorem gJ0_indexOf_0f7a4_J0_indexOf_7cf53 : GoodIn wsJ0_indexOf_0f7a4 (wsV RJ0 633 RJ0 yJ0_indexOf_7cf53 wsJ0_indexOf_7cf53) := goodIn_app (goodIn_of _ (by decide +kernel)) ggJ0_indexOf_0f7a4_J0_indexOf_7cf53
theorem dJ0_indexOf_0f7a4_0 : decode cJ0_indexOf_0f7a4 0 = .ok (.aload_n 0, 1) := by decide +kernel
theorem dJ0_indexOf_0f7a4_1 : decode cJ0_indexOf_0f7a4 1 = .ok (.iload_n 1, 1) := by decide +kernel
theorem dJ0_indexOf_0f7a4_2 : decode cJ0_indexOf_0f7a4 2 = .ok (.iconst 0, 1) := by decide +kernel
theorem dJ0_indexOf_0f7a4_3 : decode cJ0_indexOf_0f7a4 3 = .ok (.invokevirtual 633, 3) := by decide +kernel
theorem dJ0_indexOf_0f7a4_6 : decode cJ0_indexOf_0f7a4 6 = .ok (.ireturn, 1) := by decide +kernel
set_option maxRecDepth 20000 in
theorem ggJ0_indexOf_7cf53_J0_isLatin1_aae02 : GoodIn wsJ0_indexOf_7cf53 wsJ0_isLatin1_aae02 := goodIn_r _ [6, 7, 8] (by decide +kernel) (by decide +kernel)
set_option maxRecDepth 20000 in
theorem gJ0_indexOf_7cf53_J0_isLatin1_aae02 : GoodIn wsJ0_indexOf_7cf53 (wsV RJ0 492 RJ0 yJ0_isLatin1_aae02 wsJ0_isLatin1_aae02) := goodIn_app (goodIn_of _ (by decide +kernel)) ggJ0_indexOf_7cf53_J0_isLatin1_aae02
set_option maxRecDepth 20000 in
theorem ggJ0_indexOf_7cf53_J0_length_8abf5 : GoodIn wsJ0_indexOf_7cf53 wsJ0_length_8abf5 := goodIn_r _ [12, 1, 13, 14, 15, 5, 16, 7, 8] (by decide +kernel) (by decide +kernel)
set_option maxRecDepth 20000 in
theorem gJ0_indexOf_7cf53_J0_length_8abf5 : GoodIn wsJ0_indexOf_7cf53 (wsV RJ0 505 RJ0 yJ0_length_8abf5 wsJ0_length_8abf5) := goodIn_app (goodIn_of _ (by decide +kernel)) ggJ0_indexOf_7cf53_J0_length_8abf5
set_option maxRecDepth 20000 in
theorem ggJ0_indexOf_7cf53_J1_indexOf_4cfef : GoodIn wsJ0_indexOf_7cf53 wsJ1_indexOf_4cfef := goodIn_r _ [20, 21, 22, 23, 24, 25, 26, 27, 28, 29, 19, 30, 31, 32, 33] (by decide +kernel) (by decide +kernel)
set_option maxRecDepth 20000 in
theorem gJ0_indexOf_7cf53_J1_indexOf_4cfef : GoodIn wsJ0_indexOf_7cf53 (va_wsS RJ0 637 yJ1_indexOf_4cfef wsJ1_indexOf_4cfef) := goodIn_app (goodIn_of _ (by decide +kernel)) ggJ0_indexOf_7cf53_J1_indexOf_4cfef
set_option maxRecDepth 20000 in
theorem ggJ0_indexOf_7cf53_J2_indexOf_4cfef : GoodIn wsJ0_indexOf_7cf53 wsJ2_indexOf_4cfef := goodIn_r _ [37, 38, 22, 23, 24, 39, 26, 27, 40, 41, 42, 36, 43, 44, 45, 46, 47, 48, 49, 50, 51, 5, 52, 53, 54, 55, 56, 57, 58, 59, 60, 61, 62, 63, 64, 65, 66, 67, 68, 69, 70, 71, 72, 73, 74, 75, 76, 77, 78, 79, 80, 81] (by decide +kernel) (by decide +kernel)
set_option maxRecDepth 20000 in
theorem gJ0_indexOf_7cf53_J2_indexOf_4cfef : GoodIn wsJ0_indexOf_7cf53 (va_wsS RJ0 640 yJ2_indexOf_4cfef wsJ2_indexOf_4cfef) := goodIn_app (goodIn_of _ (by decide +kernel)) ggJ0_indexOf_7cf53_J2_indexOf_4cfef
theorem dJ0_indexOf_7cf53_0 : decode cJ0_indexOf_7cf53 0 = .ok (.aload_n 0, 1) := by decide +kernel
theorem dJ0_indexOf_7cf53_1 : decode cJ0_indexOf_7cf53 1 = .ok (.invokevirtual 492, 3) := by decide +kernel
theorem dJ0_indexOf_7cf53_4 : decode cJ0_indexOf_7cf53 4 = .ok (.ifCond .eq 19, 3) := by decide +kernel
theorem dJ0_indexOf_7cf53_7 : decode cJ0_indexOf_7cf53 7 = .ok (.aload_n 0, 1) := by decide +kernel
theorem dJ0_indexOf_7cf53_8 : decode cJ0_indexOf_7cf53 8 = .ok (.getfield 9, 3) := by decide +kernel
theorem dJ0_indexOf_7cf53_11 : decode cJ0_indexOf_7cf53 11 = .ok (.iload_n 1, 1) := by decide +kernel
theorem dJ0_indexOf_7cf53_12 : decode cJ0_indexOf_7cf53 12 = .ok (.iload_n 2, 1) := by decide +kernel
theorem dJ0_indexOf_7cf53_13 : decode cJ0_indexOf_7cf53 13 = .ok (.aload_n 0, 1) := by decide +kernel
theorem dJ0_indexOf_7cf53_14 : decode cJ0_indexOf_7cf53 14 = .ok (.invokevirtual 505, 3) := by decide +kernel
theorem dJ0_indexOf_7cf53_17 : decode cJ0_indexOf_7cf53 17 = .ok (.invokestatic 637, 3) := by decide +kernel
theorem dJ0_indexOf_7cf53_20 : decode cJ0_indexOf_7cf53 20 = .ok (.goto 16, 3) := by decide +kernel
theorem dJ0_indexOf_7cf53_23 : decode cJ0_indexOf_7cf53 23 = .ok (.aload_n 0, 1) := by decide +kernel
theorem dJ0_indexOf_7cf53_24 : decode cJ0_indexOf_7cf53 24 = .ok (.getfield 9, 3) := by decide +kernel
theorem dJ0_indexOf_7cf53_27 : decode cJ0_indexOf_7cf53 27 = .ok (.iload_n 1, 1) := by decide +kernel
theorem dJ0_indexOf_7cf53_28 : decode cJ0_indexOf_7cf53 28 = .ok (.iload_n 2, 1) := by decide +kernel
theorem dJ0_indexOf_7cf53_29 : decode cJ0_indexOf_7cf53 29 = .ok (.aload_n 0, 1) := by decide +kernel
theorem dJ0_indexOf_7cf53_30 : decode cJ0_indexOf_7cf53 30 = .ok (.invokevirtual 505, 3) := by decide +kernel
theorem dJ0_indexOf_7cf53_33 : decode cJ0_indexOf_7cf53 33 = .ok (.invokestatic 640, 3) := by decide +kernel
theorem dJ0_indexOf_7cf53_36 : decode cJ0_indexOf_7cf53 36 = .ok (.ireturn, 1) := by decide +kernel
theorem dJ0_coder_7d493_0 : decode cJ0_coder_7d493 0 = .ok (.getstatic 38, 3) := by decide +kernel
theorem dJ0_coder_7d493_3 : decode cJ0_coder_7d493 3 = .ok (.ifCond .eq 10, 3) := by decide +kernel
theorem dJ0_coder_7d493_6 : decode cJ0_coder_7d493 6 = .ok (.aload_n 0, 1) := by decide +kernel
theorem dJ0_coder_7d493_7 : decode cJ0_coder_7d493 7 = .ok (.getfield 15, 3) := by decide +kernel
theorem dJ0_coder_7d493_10 : decode cJ0_coder_7d493 10 = .ok (.goto 4, 3) := by decide +kernel
theorem dJ0_coder_7d493_13 : decode cJ0_coder_7d493 13 = .ok (.iconst 1, 1) := by decide +kernel
theorem dJ0_coder_7d493_14 : decode cJ0_coder_7d493 14 = .ok (.ireturn, 1) := by decide +kernel
theorem dJ0_isLatin1_aae02_0 : decode cJ0_isLatin1_aae02 0 = .ok (.getstatic 38, 3) := by decide +kernel
theorem dJ0_isLatin1_aae02_3 : decode cJ0_isLatin1_aae02 3 = .ok (.ifCond .eq 14, 3) := by decide +kernel
theorem dJ0_isLatin1_aae02_6 : decode cJ0_isLatin1_aae02 6 = .ok (.aload_n 0, 1) := by decide +kernel
theorem dJ0_isLatin1_aae02_7 : decode cJ0_isLatin1_aae02 7 = .ok (.getfield 15, 3) := by decide +kernel
theorem dJ0_isLatin1_aae02_10 : decode cJ0_isLatin1_aae02 10 = .ok (.ifCond .ne 7, 3) := by decide +kernel
theorem dJ0_isLatin1_aae02_13 : decode cJ0_isLatin1_aae02 13 = .ok (.iconst 1, 1) := by decide +kernel
theorem dJ0_isLatin1_aae02_14 : decode cJ0_isLatin1_aae02 14 = .ok (.goto 4, 3) := by decide +kernel
theorem dJ0_isLatin1_aae02_17 : decode cJ0_isLatin1_aae02 17 = .ok (.iconst 0, 1) := by decide +kernel
theorem dJ0_isLatin1_aae02_18 : decode cJ0_isLatin1_aae02 18 = .ok (.ireturn, 1) := by decide +kernel
set_option maxRecDepth 20000 in
theorem ggJ0_checkIndex_df160_J3_checkIndex_8e157 : GoodIn wsJ0_checkIndex_df160 wsJ3_checkIndex_8e157 := goodIn_r _ [5] (by decide +kernel) (by decide +kernel)
set_option maxRecDepth 20000 in
theorem gJ0_checkIndex_df160_J3_checkIndex_8e157 : GoodIn wsJ0_checkIndex_df160 (va_wsS RJ0 1059 yJ3_checkIndex_8e157 wsJ3_checkIndex_8e157) := goodIn_app (goodIn_of _ (by decide +kernel)) ggJ0_checkIndex_df160_J3_checkIndex_8e157
theorem dJ0_checkIndex_df160_0 : decode cJ0_checkIndex_df160 0 = .ok (.iload_n 0, 1) := by decide +kernel
theorem dJ0_checkIndex_df160_1 : decode cJ0_checkIndex_df160 1 = .ok (.iload_n 1, 1) := by decide +kernel
theorem dJ0_checkIndex_df160_2 : decode cJ0_checkIndex_df160 2 = .ok (.getstatic 1053, 3) := by decide +kernel
theorem dJ0_checkIndex_df160_5 : decode cJ0_checkIndex_df160 5 = .ok (.invokestatic 1059, 3) := by decide +kernel
theorem dJ0_checkIndex_df160_8 : decode cJ0_checkIndex_df160 8 = .ok (.pop, 1) := by decide +kernel
theorem dJ0_checkIndex_df160_9 : decode cJ0_checkIndex_df160 9 = .ok (.return_, 1) := by decide +kernel
set_option maxRecDepth 20000 in
theorem ggJ0_checkBoundsBeginEnd_23922_J3_checkFromToIndex_8c36e : GoodIn wsJ0_checkBoundsBeginEnd_23922 wsJ3_checkFromToIndex_8c36e := goodIn_r _ [5] (by decide +kernel) (by decide +kernel)
set_option maxRecDepth 20000 in
theorem gJ0_checkBoundsBeginEnd_23922_J3_checkFromToIndex_8c36e : GoodIn wsJ0_checkBoundsBeginEnd_23922 (va_wsS RJ0 1062 yJ3_checkFromToIndex_8c36e wsJ3_checkFromToIndex_8c36e) := goodIn_app (goodIn_of _ (by decide +kernel)) ggJ0_checkBoundsBeginEnd_23922_J3_checkFromToIndex_8c36e
theorem dJ0_checkBoundsBeginEnd_23922_0 : decode cJ0_checkBoundsBeginEnd_23922 0 = .ok (.iload_n 0, 1) := by decide +kernel
theorem dJ0_checkBoundsBeginEnd_23922_1 : decode cJ0_checkBoundsBeginEnd_23922 1 = .ok (.iload_n 1, 1) := by decide +kernel
theorem dJ0_checkBoundsBeginEnd_23922_2 : decode cJ0_checkBoundsBeginEnd_23922 2 = .ok (.iload_n 2, 1) := by decide +kernel
theorem dJ0_checkBoundsBeginEnd_23922_3 : decode cJ0_checkBoundsBeginEnd_23922 3 = .ok (.getstatic 1053, 3) := by decide +kernel
theorem dJ0_checkBoundsBeginEnd_23922_6 : decode cJ0_checkBoundsBeginEnd_23922 6 = .ok (.invokestatic 1062, 3) := by decide +kernel
theorem dJ0_checkBoundsBeginEnd_23922_9 : decode cJ0_checkBoundsBeginEnd_23922 9 = .ok (.pop, 1) := by decide +kernel
theorem dJ0_checkBoundsBeginEnd_23922_10 : decode cJ0_checkBoundsBeginEnd_23922 10 = .ok (.return_, 1) := by decide +kernel
set_option maxRecDepth 20000 in
theorem ggJ1_charAt_3b067_J0_checkIndex_df160 : GoodIn wsJ1_charAt_3b067 wsJ0_checkIndex_df160 := goodIn_r _ [4, 5, 6, 7, 8, 9] (by decide +kernel) (by decide +kernel)
set_option maxRecDepth 20000 in
theorem gJ1_charAt_3b067_J0_checkIndex_df160 : GoodIn wsJ1_charAt_3b067 (va_wsS RJ1 9 yJ0_checkIndex_df160 wsJ0_checkIndex_df160) := goodIn_app (goodIn_of _ (by decide +kernel)) ggJ1_charAt_3b067_J0_checkIndex_df160
theorem dJ1_charAt_3b067_0 : decode cJ1_charAt_3b067 0 = .ok (.iload_n 1, 1) := by decide +kernel
theorem dJ1_charAt_3b067_1 : decode cJ1_charAt_3b067 1 = .ok (.aload_n 0, 1) := by decide +kernel
theorem dJ1_charAt_3b067_2 : decode cJ1_charAt_3b067 2 = .ok (.arraylength, 1) := by decide +kernel
theorem dJ1_charAt_3b067_3 : decode cJ1_charAt_3b067 3 = .ok (.invokestatic 9, 3) := by decide +kernel
theorem dJ1_charAt_3b067_6 : decode cJ1_charAt_3b067 6 = .ok (.aload_n 0, 1) := by decide +kernel
theorem dJ1_charAt_3b067_7 : decode cJ1_charAt_3b067 7 = .ok (.iload_n 1, 1) := by decide +kernel
theorem dJ1_charAt_3b067_8 : decode cJ1_charAt_3b067 8 = .ok (.baload, 1) := by decide +kernel
theorem dJ1_charAt_3b067_9 : decode cJ1_charAt_3b067 9 = .ok (.sipush 255, 3) := by decide +kernel
theorem dJ1_charAt_3b067_12 : decode cJ1_charAt_3b067 12 = .ok (.iand, 1) := by decide +kernel
theorem dJ1_charAt_3b067_13 : decode cJ1_charAt_3b067 13 = .ok (.i2c, 1) := by decide +kernel
theorem dJ1_charAt_3b067_14 : decode cJ1_charAt_3b067 14 = .ok (.ireturn, 1) := by decide +kernel
theorem dJ1_canEncode_9a6ad_0 : decode cJ1_canEncode_9a6ad 0 = .ok (.iload_n 0, 1) := by decide +kernel
theorem dJ1_canEncode_9a6ad_1 : decode cJ1_canEncode_9a6ad 1 = .ok (.ifCond .lt 14, 3) := by decide +kernel
theorem dJ1_canEncode_9a6ad_4 : decode cJ1_canEncode_9a6ad 4 = .ok (.iload_n 0, 1) := by decide +kernel
theorem dJ1_canEncode_9a6ad_5 : decode cJ1_canEncode_9a6ad 5 = .ok (.sipush 255, 3) := by decide +kernel
theorem dJ1_canEncode_9a6ad_8 : decode cJ1_canEncode_9a6ad 8 = .ok (.if_icmp .gt 7, 3) := by decide +kernel
theorem dJ1_canEncode_9a6ad_11 : decode cJ1_canEncode_9a6ad 11 = .ok (.iconst 1, 1) := by decide +kernel
theorem dJ1_canEncode_9a6ad_12 : decode cJ1_canEncode_9a6ad 12 = .ok (.goto 4, 3) := by decide +kernel
theorem dJ1_canEncode_9a6ad_15 : decode cJ1_canEncode_9a6ad 15 = .ok (.iconst 0, 1) := by decide +kernel
theorem dJ1_canEncode_9a6ad_16 : decode cJ1_canEncode_9a6ad 16 = .ok (.ireturn, 1) := by decide +kernel
set_option maxRecDepth 20000 in
theorem ggJ1_indexOf_4cfef_J1_canEncode_9a6ad : GoodIn wsJ1_indexOf_4cfef wsJ1_canEncode_9a6ad := goodIn_r _ [11] (by decide +kernel) (by decide +kernel)
set_option maxRecDepth 20000 in
theorem gJ1_indexOf_4cfef_J1_canEncode_9a6ad : GoodIn wsJ1_indexOf_4cfef (va_wsS RJ1 88 yJ1_canEncode_9a6ad wsJ1_canEncode_9a6ad) := goodIn_app (goodIn_of _ (by decide +kernel)) ggJ1_indexOf_4cfef_J1_canEncode_9a6ad
set_option maxRecDepth 20000 in
theorem ggJ1_indexOf_4cfef_J1_indexOfChar_4cfef : GoodIn wsJ1_indexOf_4cfef wsJ1_indexOfChar_4cfef := goodIn_r _ [14] (by decide +kernel) (by decide +kernel)
set_option maxRecDepth 20000 in
theorem gJ1_indexOf_4cfef_J1_indexOfChar_4cfef : GoodIn wsJ1_indexOf_4cfef (va_wsS RJ1 95 yJ1_indexOfChar_4cfef wsJ1_indexOfChar_4cfef) := goodIn_app (goodIn_of _ (by decide +kernel)) ggJ1_indexOf_4cfef_J1_indexOfChar_4cfef
theorem dJ1_indexOf_4cfef_0 : decode cJ1_indexOf_4cfef 0 = .ok (.iload_n 1, 1) := by decide +kernel
theorem dJ1_indexOf_4cfef_1 : decode cJ1_indexOf_4cfef 1 = .ok (.invokestatic 88, 3) := by decide +kernel
theorem dJ1_indexOf_4cfef_4 : decode cJ1_indexOf_4cfef 4 = .ok (.ifCond .ne 5, 3) := by decide +kernel
theorem dJ1_indexOf_4cfef_7 : decode cJ1_indexOf_4cfef 7 = .ok (.iconst (-1), 1) := by decide +kernel
theorem dJ1_indexOf_4cfef_8 : decode cJ1_indexOf_4cfef 8 = .ok (.ireturn, 1) := by decide +kernel
theorem dJ1_indexOf_4cfef_9 : decode cJ1_indexOf_4cfef 9 = .ok (.iload_n 2, 1) := by decide +kernel
theorem dJ1_indexOf_4cfef_10 : decode cJ1_indexOf_4cfef 10 = .ok (.iconst 0, 1) := by decide +kernel
theorem dJ1_indexOf_4cfef_11 : decode cJ1_indexOf_4cfef 11 = .ok (.invokestatic 92, 3) := by decide +kernel
theorem dJ1_indexOf_4cfef_14 : decode cJ1_indexOf_4cfef 14 = .ok (.istore_n 2, 1) := by decide +kernel
theorem dJ1_indexOf_4cfef_15 : decode cJ1_indexOf_4cfef 15 = .ok (.iload_n 3, 1) := by decide +kernel
theorem dJ1_indexOf_4cfef_16 : decode cJ1_indexOf_4cfef 16 = .ok (.aload_n 0, 1) := by decide +kernel
theorem dJ1_indexOf_4cfef_17 : decode cJ1_indexOf_4cfef 17 = .ok (.arraylength, 1) := by decide +kernel
theorem dJ1_indexOf_4cfef_18 : decode cJ1_indexOf_4cfef 18 = .ok (.invokestatic 38, 3) := by decide +kernel
theorem dJ1_indexOf_4cfef_21 : decode cJ1_indexOf_4cfef 21 = .ok (.istore_n 3, 1) := by decide +kernel
theorem dJ1_indexOf_4cfef_22 : decode cJ1_indexOf_4cfef 22 = .ok (.iload_n 2, 1) := by decide +kernel
theorem dJ1_indexOf_4cfef_23 : decode cJ1_indexOf_4cfef 23 = .ok (.iload_n 3, 1) := by decide +kernel
theorem dJ1_indexOf_4cfef_24 : decode cJ1_indexOf_4cfef 24 = .ok (.if_icmp .lt 5, 3) := by decide +kernel
theorem dJ1_indexOf_4cfef_27 : decode cJ1_indexOf_4cfef 27 = .ok (.iconst (-1), 1) := by decide +kernel
theorem dJ1_indexOf_4cfef_28 : decode cJ1_indexOf_4cfef 28 = .ok (.ireturn, 1) := by decide +kernel
theorem dJ1_indexOf_4cfef_29 : decode cJ1_indexOf_4cfef 29 = .ok (.aload_n 0, 1) := by decide +kernel
theorem dJ1_indexOf_4cfef_30 : decode cJ1_indexOf_4cfef 30 = .ok (.iload_n 1, 1) := by decide +kernel
theorem dJ1_indexOf_4cfef_31 : decode cJ1_indexOf_4cfef 31 = .ok (.iload_n 2, 1) := by decide +kernel
theorem dJ1_indexOf_4cfef_32 : decode cJ1_indexOf_4cfef 32 = .ok (.iload_n 3, 1) := by decide +kernel
theorem dJ1_indexOf_4cfef_33 : decode cJ1_indexOf_4cfef 33 = .ok (.invokestatic 95, 3) := by decide +kernel
theorem dJ1_indexOf_4cfef_36 : decode cJ1_indexOf_4cfef 36 = .ok (.ireturn, 1) := by decide +kernel
theorem dJ1_indexOfChar_4cfef_0 : decode cJ1_indexOfChar_4cfef 0 = .ok (.iload_n 1, 1) := by decide +kernel
theorem dJ1_indexOfChar_4cfef_1 : decode cJ1_indexOfChar_4cfef 1 = .ok (.i2b, 1) := by decide +kernel
theorem dJ1_indexOfChar_4cfef_2 : decode cJ1_indexOfChar_4cfef 2 = .ok (.istore 4, 2) := by decide +kernel
theorem dJ1_indexOfChar_4cfef_4 : decode cJ1_indexOfChar_4cfef 4 = .ok (.iload_n 2, 1) := by decide +kernel
theorem dJ1_indexOfChar_4cfef_5 : decode cJ1_indexOfChar_4cfef 5 = .ok (.istore 5, 2) := by decide +kernel
theorem dJ1_indexOfChar_4cfef_7 : decode cJ1_indexOfChar_4cfef 7 = .ok (.iload 5, 2) := by decide +kernel
theorem dJ1_indexOfChar_4cfef_9 : decode cJ1_indexOfChar_4cfef 9 = .ok (.iload_n 3, 1) := by decide +kernel
theorem dJ1_indexOfChar_4cfef_10 : decode cJ1_indexOfChar_4cfef 10 = .ok (.if_icmp .ge 21, 3) := by decide +kernel
theorem dJ1_indexOfChar_4cfef_13 : decode cJ1_indexOfChar_4cfef 13 = .ok (.aload_n 0, 1) := by decide +kernel
theorem dJ1_indexOfChar_4cfef_14 : decode cJ1_indexOfChar_4cfef 14 = .ok (.iload 5, 2) := by decide +kernel
theorem dJ1_indexOfChar_4cfef_16 : decode cJ1_indexOfChar_4cfef 16 = .ok (.baload, 1) := by decide +kernel
theorem dJ1_indexOfChar_4cfef_17 : decode cJ1_indexOfChar_4cfef 17 = .ok (.iload 4, 2) := by decide +kernel
theorem dJ1_indexOfChar_4cfef_19 : decode cJ1_indexOfChar_4cfef 19 = .ok (.if_icmp .ne 6, 3) := by decide +kernel
theorem dJ1_indexOfChar_4cfef_22 : decode cJ1_indexOfChar_4cfef 22 = .ok (.iload 5, 2) := by decide +kernel
theorem dJ1_indexOfChar_4cfef_24 : decode cJ1_indexOfChar_4cfef 24 = .ok (.ireturn, 1) := by decide +kernel
theorem dJ1_indexOfChar_4cfef_25 : decode cJ1_indexOfChar_4cfef 25 = .ok (.iinc 5 1, 3) := by decide +kernel
theorem dJ1_indexOfChar_4cfef_28 : decode cJ1_indexOfChar_4cfef 28 = .ok (.goto (-21), 3) := by decide +kernel
theorem dJ1_indexOfChar_4cfef_31 : decode cJ1_indexOfChar_4cfef 31 = .ok (.iconst (-1), 1) := by decide +kernel
theorem dJ1_indexOfChar_4cfef_32 : decode cJ1_indexOfChar_4cfef 32 = .ok (.ireturn, 1) := by decide +kernel
set_option maxRecDepth 20000 in
theorem ggJ2_getChar_3b067_J2_length_9d52b : GoodIn wsJ2_getChar_3b067 wsJ2_length_9d52b := goodIn_r _ [7] (by decide +kernel) (by decide +kernel)
set_option maxRecDepth 20000 in
theorem gJ2_getChar_3b067_J2_length_9d52b : GoodIn wsJ2_getChar_3b067 (va_wsS RJ2 48 yJ2_length_9d52b wsJ2_length_9d52b) := goodIn_app (goodIn_of _ (by decide +kernel)) ggJ2_getChar_3b067_J2_length_9d52b
theorem dJ2_getChar_3b067_0 : decode cJ2_getChar_3b067 0 = .ok (.getstatic 44, 3) := by decide +kernel
theorem dJ2_getChar_3b067_3 : decode cJ2_getChar_3b067 3 = .ok (.ifCond .ne 25, 3) := by decide +kernel
theorem dJ2_getChar_3b067_6 : decode cJ2_getChar_3b067 6 = .ok (.iload_n 1, 1) := by decide +kernel
theorem dJ2_getChar_3b067_7 : decode cJ2_getChar_3b067 7 = .ok (.ifCond .lt 11, 3) := by decide +kernel
theorem dJ2_getChar_3b067_10 : decode cJ2_getChar_3b067 10 = .ok (.iload_n 1, 1) := by decide +kernel
theorem dJ2_getChar_3b067_11 : decode cJ2_getChar_3b067 11 = .ok (.aload_n 0, 1) := by decide +kernel
theorem dJ2_getChar_3b067_12 : decode cJ2_getChar_3b067 12 = .ok (.invokestatic 48, 3) := by decide +kernel
theorem dJ2_getChar_3b067_15 : decode cJ2_getChar_3b067 15 = .ok (.if_icmp .lt 13, 3) := by decide +kernel
theorem dJ2_getChar_3b067_18 : decode cJ2_getChar_3b067 18 = .ok (.new 52, 3) := by decide +kernel
theorem dJ2_getChar_3b067_21 : decode cJ2_getChar_3b067 21 = .ok (.dup, 1) := by decide +kernel
theorem dJ2_getChar_3b067_22 : decode cJ2_getChar_3b067 22 = .ok (.ldc 54, 2) := by decide +kernel
theorem dJ2_getChar_3b067_24 : decode cJ2_getChar_3b067 24 = .ok (.invokespecial 56, 3) := by decide +kernel
theorem dJ2_getChar_3b067_27 : decode cJ2_getChar_3b067 27 = .ok (.athrow, 1) := by decide +kernel
theorem dJ2_getChar_3b067_28 : decode cJ2_getChar_3b067 28 = .ok (.iload_n 1, 1) := by decide +kernel
theorem dJ2_getChar_3b067_29 : decode cJ2_getChar_3b067 29 = .ok (.iconst 1, 1) := by decide +kernel
theorem dJ2_getChar_3b067_30 : decode cJ2_getChar_3b067 30 = .ok (.ishl, 1) := by decide +kernel
theorem dJ2_getChar_3b067_31 : decode cJ2_getChar_3b067 31 = .ok (.istore_n 1, 1) := by decide +kernel
theorem dJ2_getChar_3b067_32 : decode cJ2_getChar_3b067 32 = .ok (.aload_n 0, 1) := by decide +kernel
theorem dJ2_getChar_3b067_33 : decode cJ2_getChar_3b067 33 = .ok (.iload_n 1, 1) := by decide +kernel
theorem dJ2_getChar_3b067_34 : decode cJ2_getChar_3b067 34 = .ok (.iinc 1 1, 3) := by decide +kernel
theorem dJ2_getChar_3b067_37 : decode cJ2_getChar_3b067 37 = .ok (.baload, 1) := by decide +kernel
theorem dJ2_getChar_3b067_38 : decode cJ2_getChar_3b067 38 = .ok (.sipush 255, 3) := by decide +kernel
theorem dJ2_getChar_3b067_41 : decode cJ2_getChar_3b067 41 = .ok (.iand, 1) := by decide +kernel
theorem dJ2_getChar_3b067_42 : decode cJ2_getChar_3b067 42 = .ok (.getstatic 59, 3) := by decide +kernel
theorem dJ2_getChar_3b067_45 : decode cJ2_getChar_3b067 45 = .ok (.ishl, 1) := by decide +kernel
theorem dJ2_getChar_3b067_46 : decode cJ2_getChar_3b067 46 = .ok (.aload_n 0, 1) := by decide +kernel
theorem dJ2_getChar_3b067_47 : decode cJ2_getChar_3b067 47 = .ok (.iload_n 1, 1) := by decide +kernel
theorem dJ2_getChar_3b067_48 : decode cJ2_getChar_3b067 48 = .ok (.baload, 1) := by decide +kernel
theorem dJ2_getChar_3b067_49 : decode cJ2_getChar_3b067 49 = .ok (.sipush 255, 3) := by decide +kernel
theorem dJ2_getChar_3b067_52 : decode cJ2_getChar_3b067 52 = .ok (.iand, 1) := by decide +kernel
theorem dJ2_getChar_3b067_53 : decode cJ2_getChar_3b067 53 = .ok (.getstatic 63, 3) := by decide +kernel
theorem dJ2_getChar_3b067_56 : decode cJ2_getChar_3b067 56 = .ok (.ishl, 1) := by decide +kernel
theorem dJ2_getChar_3b067_57 : decode cJ2_getChar_3b067 57 = .ok (.ior, 1) := by decide +kernel
theorem dJ2_getChar_3b067_58 : decode cJ2_getChar_3b067 58 = .ok (.i2c, 1) := by decide +kernel
theorem dJ2_getChar_3b067_59 : decode cJ2_getChar_3b067 59 = .ok (.ireturn, 1) := by decide +kernel
theorem dJ2_length_9d52b_0 : decode cJ2_length_9d52b 0 = .ok (.aload_n 0, 1) := by decide +kernel
theorem dJ2_length_9d52b_1 : decode cJ2_length_9d52b 1 = .ok (.arraylength, 1) := by decide +kernel
theorem dJ2_length_9d52b_2 : decode cJ2_length_9d52b 2 = .ok (.iconst 1, 1) := by decide +kernel
theorem dJ2_length_9d52b_3 : decode cJ2_length_9d52b 3 = .ok (.ishr, 1) := by decide +kernel
theorem dJ2_length_9d52b_4 : decode cJ2_length_9d52b 4 = .ok (.ireturn, 1) := by decide +kernel
set_option maxRecDepth 20000 in
theorem ggJ2_indexOf_4cfef_J2_indexOfChar_4cfef : GoodIn wsJ2_indexOf_4cfef wsJ2_indexOfChar_4cfef := goodIn_r _ [12, 13, 14, 11, 15, 16, 17, 18, 19, 20, 21, 22, 23, 24, 25, 26, 27, 28, 29, 30, 31, 32, 33, 34, 35, 36] (by decide +kernel) (by decide +kernel)
set_option maxRecDepth 20000 in
theorem gJ2_indexOf_4cfef_J2_indexOfChar_4cfef : GoodIn wsJ2_indexOf_4cfef (va_wsS RJ2 228 yJ2_indexOfChar_4cfef wsJ2_indexOfChar_4cfef) := goodIn_app (goodIn_of _ (by decide +kernel)) ggJ2_indexOf_4cfef_J2_indexOfChar_4cfef
set_option maxRecDepth 20000 in
theorem ggJ2_indexOf_4cfef_J2_indexOfSupplementary_4cfef : GoodIn wsJ2_indexOf_4cfef wsJ2_indexOfSupplementary_4cfef := goodIn_r _ [39, 40, 41, 42, 43, 44, 45, 46, 47, 48, 49, 50, 51, 13, 14, 11, 15, 16, 17, 18, 19, 20, 21, 22, 23, 24, 25, 26, 27, 31, 32, 33, 34, 35, 36] (by decide +kernel) (by decide +kernel)
set_option maxRecDepth 20000 in
theorem gJ2_indexOf_4cfef_J2_indexOfSupplementary_4cfef : GoodIn wsJ2_indexOf_4cfef (va_wsS RJ2 232 yJ2_indexOfSupplementary_4cfef wsJ2_indexOfSupplementary_4cfef) := goodIn_app (goodIn_of _ (by decide +kernel)) ggJ2_indexOf_4cfef_J2_indexOfSupplementary_4cfef
theorem dJ2_indexOf_4cfef_0 : decode cJ2_indexOf_4cfef 0 = .ok (.iload_n 2, 1) := by decide +kernel
theorem dJ2_indexOf_4cfef_1 : decode cJ2_indexOf_4cfef 1 = .ok (.iconst 0, 1) := by decide +kernel
theorem dJ2_indexOf_4cfef_2 : decode cJ2_indexOf_4cfef 2 = .ok (.invokestatic 224, 3) := by decide +kernel
theorem dJ2_indexOf_4cfef_5 : decode cJ2_indexOf_4cfef 5 = .ok (.istore_n 2, 1) := by decide +kernel
theorem dJ2_indexOf_4cfef_6 : decode cJ2_indexOf_4cfef 6 = .ok (.iload_n 3, 1) := by decide +kernel
theorem dJ2_indexOf_4cfef_7 : decode cJ2_indexOf_4cfef 7 = .ok (.aload_n 0, 1) := by decide +kernel
theorem dJ2_indexOf_4cfef_8 : decode cJ2_indexOf_4cfef 8 = .ok (.arraylength, 1) := by decide +kernel
theorem dJ2_indexOf_4cfef_9 : decode cJ2_indexOf_4cfef 9 = .ok (.iconst 1, 1) := by decide +kernel
theorem dJ2_indexOf_4cfef_10 : decode cJ2_indexOf_4cfef 10 = .ok (.ishr, 1) := by decide +kernel
theorem dJ2_indexOf_4cfef_11 : decode cJ2_indexOf_4cfef 11 = .ok (.invokestatic 183, 3) := by decide +kernel
theorem dJ2_indexOf_4cfef_14 : decode cJ2_indexOf_4cfef 14 = .ok (.istore_n 3, 1) := by decide +kernel
theorem dJ2_indexOf_4cfef_15 : decode cJ2_indexOf_4cfef 15 = .ok (.iload_n 2, 1) := by decide +kernel
theorem dJ2_indexOf_4cfef_16 : decode cJ2_indexOf_4cfef 16 = .ok (.iload_n 3, 1) := by decide +kernel
theorem dJ2_indexOf_4cfef_17 : decode cJ2_indexOf_4cfef 17 = .ok (.if_icmp .lt 5, 3) := by decide +kernel
theorem dJ2_indexOf_4cfef_20 : decode cJ2_indexOf_4cfef 20 = .ok (.iconst (-1), 1) := by decide +kernel
theorem dJ2_indexOf_4cfef_21 : decode cJ2_indexOf_4cfef 21 = .ok (.ireturn, 1) := by decide +kernel
theorem dJ2_indexOf_4cfef_22 : decode cJ2_indexOf_4cfef 22 = .ok (.iload_n 1, 1) := by decide +kernel
theorem dJ2_indexOf_4cfef_23 : decode cJ2_indexOf_4cfef 23 = .ok (.ldc 227, 2) := by decide +kernel
theorem dJ2_indexOf_4cfef_25 : decode cJ2_indexOf_4cfef 25 = .ok (.if_icmp .ge 11, 3) := by decide +kernel
theorem dJ2_indexOf_4cfef_28 : decode cJ2_indexOf_4cfef 28 = .ok (.aload_n 0, 1) := by decide +kernel
theorem dJ2_indexOf_4cfef_29 : decode cJ2_indexOf_4cfef 29 = .ok (.iload_n 1, 1) := by decide +kernel
theorem dJ2_indexOf_4cfef_30 : decode cJ2_indexOf_4cfef 30 = .ok (.iload_n 2, 1) := by decide +kernel
theorem dJ2_indexOf_4cfef_31 : decode cJ2_indexOf_4cfef 31 = .ok (.iload_n 3, 1) := by decide +kernel
theorem dJ2_indexOf_4cfef_32 : decode cJ2_indexOf_4cfef 32 = .ok (.invokestatic 228, 3) := by decide +kernel
theorem dJ2_indexOf_4cfef_35 : decode cJ2_indexOf_4cfef 35 = .ok (.ireturn, 1) := by decide +kernel
theorem dJ2_indexOf_4cfef_36 : decode cJ2_indexOf_4cfef 36 = .ok (.aload_n 0, 1) := by decide +kernel
theorem dJ2_indexOf_4cfef_37 : decode cJ2_indexOf_4cfef 37 = .ok (.iload_n 1, 1) := by decide +kernel
theorem dJ2_indexOf_4cfef_38 : decode cJ2_indexOf_4cfef 38 = .ok (.iload_n 2, 1) := by decide +kernel
theorem dJ2_indexOf_4cfef_39 : decode cJ2_indexOf_4cfef 39 = .ok (.iload_n 3, 1) := by decide +kernel
theorem dJ2_indexOf_4cfef_40 : decode cJ2_indexOf_4cfef 40 = .ok (.invokestatic 232, 3) := by decide +kernel
theorem dJ2_indexOf_4cfef_43 : decode cJ2_indexOf_4cfef 43 = .ok (.ireturn, 1) := by decide +kernel
set_option maxRecDepth 20000 in
theorem ggJ2_indexOfChar_4cfef_J2_checkBoundsBeginEnd_d044e : GoodIn wsJ2_indexOfChar_4cfef wsJ2_checkBoundsBeginEnd_d044e := goodIn_r _ [4, 5, 6, 3, 7, 8, 9, 10, 11, 12, 13, 14, 15, 16] (by decide +kernel) (by decide +kernel)
set_option maxRecDepth 20000 in
theorem gJ2_indexOfChar_4cfef_J2_checkBoundsBeginEnd_d044e : GoodIn wsJ2_indexOfChar_4cfef (va_wsS RJ2 96 yJ2_checkBoundsBeginEnd_d044e wsJ2_checkBoundsBeginEnd_d044e) := goodIn_app (goodIn_of _ (by decide +kernel)) ggJ2_indexOfChar_4cfef_J2_checkBoundsBeginEnd_d044e
set_option maxRecDepth 20000 in
theorem ggJ2_indexOfChar_4cfef_J2_indexOfCharUnsafe_4cfef : GoodIn wsJ2_indexOfChar_4cfef wsJ2_indexOfCharUnsafe_4cfef := goodIn_r _ [19, 20, 21, 3, 22, 23, 24, 25, 5, 6, 7] (by decide +kernel) (by decide +kernel)
set_option maxRecDepth 20000 in
theorem gJ2_indexOfChar_4cfef_J2_indexOfCharUnsafe_4cfef : GoodIn wsJ2_indexOfChar_4cfef (va_wsS RJ2 244 yJ2_indexOfCharUnsafe_4cfef wsJ2_indexOfCharUnsafe_4cfef) := goodIn_app (goodIn_of _ (by decide +kernel)) ggJ2_indexOfChar_4cfef_J2_indexOfCharUnsafe_4cfef
theorem dJ2_indexOfChar_4cfef_0 : decode cJ2_indexOfChar_4cfef 0 = .ok (.iload_n 2, 1) := by decide +kernel
theorem dJ2_indexOfChar_4cfef_1 : decode cJ2_indexOfChar_4cfef 1 = .ok (.iload_n 3, 1) := by decide +kernel
theorem dJ2_indexOfChar_4cfef_2 : decode cJ2_indexOfChar_4cfef 2 = .ok (.aload_n 0, 1) := by decide +kernel
theorem dJ2_indexOfChar_4cfef_3 : decode cJ2_indexOfChar_4cfef 3 = .ok (.invokestatic 96, 3) := by decide +kernel
theorem dJ2_indexOfChar_4cfef_6 : decode cJ2_indexOfChar_4cfef 6 = .ok (.aload_n 0, 1) := by decide +kernel
theorem dJ2_indexOfChar_4cfef_7 : decode cJ2_indexOfChar_4cfef 7 = .ok (.iload_n 1, 1) := by decide +kernel
theorem dJ2_indexOfChar_4cfef_8 : decode cJ2_indexOfChar_4cfef 8 = .ok (.iload_n 2, 1) := by decide +kernel
theorem dJ2_indexOfChar_4cfef_9 : decode cJ2_indexOfChar_4cfef 9 = .ok (.iload_n 3, 1) := by decide +kernel
theorem dJ2_indexOfChar_4cfef_10 : decode cJ2_indexOfChar_4cfef 10 = .ok (.invokestatic 244, 3) := by decide +kernel
theorem dJ2_indexOfChar_4cfef_13 : decode cJ2_indexOfChar_4cfef 13 = .ok (.ireturn, 1) := by decide +kernel
set_option maxRecDepth 20000 in
theorem ggJ2_indexOfCharUnsafe_4cfef_J2_getChar_3b067 : GoodIn wsJ2_indexOfCharUnsafe_4cfef wsJ2_getChar_3b067 := goodIn_r _ [4, 5, 6, 7, 8, 9, 3, 10] (by decide +kernel) (by decide +kernel)
set_option maxRecDepth 20000 in
theorem gJ2_indexOfCharUnsafe_4cfef_J2_getChar_3b067 : GoodIn wsJ2_indexOfCharUnsafe_4cfef (va_wsS RJ2 71 yJ2_getChar_3b067 wsJ2_getChar_3b067) := goodIn_app (goodIn_of _ (by decide +kernel)) ggJ2_indexOfCharUnsafe_4cfef_J2_getChar_3b067
theorem dJ2_indexOfCharUnsafe_4cfef_0 : decode cJ2_indexOfCharUnsafe_4cfef 0 = .ok (.iload_n 2, 1) := by decide +kernel
theorem dJ2_indexOfCharUnsafe_4cfef_1 : decode cJ2_indexOfCharUnsafe_4cfef 1 = .ok (.istore 4, 2) := by decide +kernel
theorem dJ2_indexOfCharUnsafe_4cfef_3 : decode cJ2_indexOfCharUnsafe_4cfef 3 = .ok (.iload 4, 2) := by decide +kernel
theorem dJ2_indexOfCharUnsafe_4cfef_5 : decode cJ2_indexOfCharUnsafe_4cfef 5 = .ok (.iload_n 3, 1) := by decide +kernel
theorem dJ2_indexOfCharUnsafe_4cfef_6 : decode cJ2_indexOfCharUnsafe_4cfef 6 = .ok (.if_icmp .ge 22, 3) := by decide +kernel
theorem dJ2_indexOfCharUnsafe_4cfef_9 : decode cJ2_indexOfCharUnsafe_4cfef 9 = .ok (.aload_n 0, 1) := by decide +kernel
theorem dJ2_indexOfCharUnsafe_4cfef_10 : decode cJ2_indexOfCharUnsafe_4cfef 10 = .ok (.iload 4, 2) := by decide +kernel
theorem dJ2_indexOfCharUnsafe_4cfef_12 : decode cJ2_indexOfCharUnsafe_4cfef 12 = .ok (.invokestatic 71, 3) := by decide +kernel
theorem dJ2_indexOfCharUnsafe_4cfef_15 : decode cJ2_indexOfCharUnsafe_4cfef 15 = .ok (.iload_n 1, 1) := by decide +kernel
theorem dJ2_indexOfCharUnsafe_4cfef_16 : decode cJ2_indexOfCharUnsafe_4cfef 16 = .ok (.if_icmp .ne 6, 3) := by decide +kernel
theorem dJ2_indexOfCharUnsafe_4cfef_19 : decode cJ2_indexOfCharUnsafe_4cfef 19 = .ok (.iload 4, 2) := by decide +kernel
theorem dJ2_indexOfCharUnsafe_4cfef_21 : decode cJ2_indexOfCharUnsafe_4cfef 21 = .ok (.ireturn, 1) := by decide +kernel
theorem dJ2_indexOfCharUnsafe_4cfef_22 : decode cJ2_indexOfCharUnsafe_4cfef 22 = .ok (.iinc 4 1, 3) := by decide +kernel
theorem dJ2_indexOfCharUnsafe_4cfef_25 : decode cJ2_indexOfCharUnsafe_4cfef 25 = .ok (.goto (-22), 3) := by decide +kernel
theorem dJ2_indexOfCharUnsafe_4cfef_28 : decode cJ2_indexOfCharUnsafe_4cfef 28 = .ok (.iconst (-1), 1) := by decide +kernel
theorem dJ2_indexOfCharUnsafe_4cfef_29 : decode cJ2_indexOfCharUnsafe_4cfef 29 = .ok (.ireturn, 1) := by decide +kernel
set_option maxRecDepth 20000 in
theorem ggJ2_indexOfSupplementary_4cfef_J11_isValidCodePoint_9a6ad : GoodIn wsJ2_indexOfSupplementary_4cfef wsJ11_isValidCodePoint_9a6ad := goodIn_r _ [4] (by decide +kernel) (by decide +kernel)
set_option maxRecDepth 20000 in
theorem gJ2_indexOfSupplementary_4cfef_J11_isValidCodePoint_9a6ad : GoodIn wsJ2_indexOfSupplementary_4cfef (va_wsS RJ2 164 yJ11_isValidCodePoint_9a6ad wsJ11_isValidCodePoint_9a6ad) := goodIn_app (goodIn_of _ (by decide +kernel)) ggJ2_indexOfSupplementary_4cfef_J11_isValidCodePoint_9a6ad
set_option maxRecDepth 20000 in
theorem ggJ2_indexOfSupplementary_4cfef_J11_highSurrogate_5068e : GoodIn wsJ2_indexOfSupplementary_4cfef wsJ11_highSurrogate_5068e := goodIn_r _ [7, 8] (by decide +kernel) (by decide +kernel)
set_option maxRecDepth 20000 in
theorem gJ2_indexOfSupplementary_4cfef_J11_highSurrogate_5068e : GoodIn wsJ2_indexOfSupplementary_4cfef (va_wsS RJ2 157 yJ11_highSurrogate_5068e wsJ11_highSurrogate_5068e) := goodIn_app (goodIn_of _ (by decide +kernel)) ggJ2_indexOfSupplementary_4cfef_J11_highSurrogate_5068e
set_option maxRecDepth 20000 in
theorem ggJ2_indexOfSupplementary_4cfef_J11_lowSurrogate_5068e : GoodIn wsJ2_indexOfSupplementary_4cfef wsJ11_lowSurrogate_5068e := goodIn_r _ [11, 12] (by decide +kernel) (by decide +kernel)
set_option maxRecDepth 20000 in
theorem gJ2_indexOfSupplementary_4cfef_J11_lowSurrogate_5068e : GoodIn wsJ2_indexOfSupplementary_4cfef (va_wsS RJ2 161 yJ11_lowSurrogate_5068e wsJ11_lowSurrogate_5068e) := goodIn_app (goodIn_of _ (by decide +kernel)) ggJ2_indexOfSupplementary_4cfef_J11_lowSurrogate_5068e
set_option maxRecDepth 20000 in
theorem ggJ2_indexOfSupplementary_4cfef_J2_checkBoundsBeginEnd_d044e : GoodIn wsJ2_indexOfSupplementary_4cfef wsJ2_checkBoundsBeginEnd_d044e := goodIn_r _ [16, 17, 18, 15, 19, 20, 21, 22, 23, 24, 25, 26, 27, 28] (by decide +kernel) (by decide +kernel)
set_option maxRecDepth 20000 in
theorem gJ2_indexOfSupplementary_4cfef_J2_checkBoundsBeginEnd_d044e : GoodIn wsJ2_indexOfSupplementary_4cfef (va_wsS RJ2 96 yJ2_checkBoundsBeginEnd_d044e wsJ2_checkBoundsBeginEnd_d044e) := goodIn_app (goodIn_of _ (by decide +kernel)) ggJ2_indexOfSupplementary_4cfef_J2_checkBoundsBeginEnd_d044e
set_option maxRecDepth 20000 in
theorem ggJ2_indexOfSupplementary_4cfef_J2_getChar_3b067 : GoodIn wsJ2_indexOfSupplementary_4cfef wsJ2_getChar_3b067 := goodIn_r _ [31, 32, 33, 34, 17, 18, 15, 19] (by decide +kernel) (by decide +kernel)
set_option maxRecDepth 20000 in
theorem gJ2_indexOfSupplementary_4cfef_J2_getChar_3b067 : GoodIn wsJ2_indexOfSupplementary_4cfef (va_wsS RJ2 71 yJ2_getChar_3b067 wsJ2_getChar_3b067) := goodIn_app (goodIn_of _ (by decide +kernel)) ggJ2_indexOfSupplementary_4cfef_J2_getChar_3b067
theorem dJ2_indexOfSupplementary_4cfef_0 : decode cJ2_indexOfSupplementary_4cfef 0 = .ok (.iload_n 1, 1) := by decide +kernel
theorem dJ2_indexOfSupplementary_4cfef_1 : decode cJ2_indexOfSupplementary_4cfef 1 = .ok (.invokestatic 164, 3) := by decide +kernel
theorem dJ2_indexOfSupplementary_4cfef_4 : decode cJ2_indexOfSupplementary_4cfef 4 = .ok (.ifCond .eq 65, 3) := by decide +kernel
theorem dJ2_indexOfSupplementary_4cfef_7 : decode cJ2_indexOfSupplementary_4cfef 7 = .ok (.iload_n 1, 1) := by decide +kernel
theorem dJ2_indexOfSupplementary_4cfef_8 : decode cJ2_indexOfSupplementary_4cfef 8 = .ok (.invokestatic 157, 3) := by decide +kernel
theorem dJ2_indexOfSupplementary_4cfef_11 : decode cJ2_indexOfSupplementary_4cfef 11 = .ok (.istore 4, 2) := by decide +kernel
theorem dJ2_indexOfSupplementary_4cfef_13 : decode cJ2_indexOfSupplementary_4cfef 13 = .ok (.iload_n 1, 1) := by decide +kernel
theorem dJ2_indexOfSupplementary_4cfef_14 : decode cJ2_indexOfSupplementary_4cfef 14 = .ok (.invokestatic 161, 3) := by decide +kernel
theorem dJ2_indexOfSupplementary_4cfef_17 : decode cJ2_indexOfSupplementary_4cfef 17 = .ok (.istore 5, 2) := by decide +kernel
theorem dJ2_indexOfSupplementary_4cfef_19 : decode cJ2_indexOfSupplementary_4cfef 19 = .ok (.iload_n 2, 1) := by decide +kernel
theorem dJ2_indexOfSupplementary_4cfef_20 : decode cJ2_indexOfSupplementary_4cfef 20 = .ok (.iload_n 3, 1) := by decide +kernel
theorem dJ2_indexOfSupplementary_4cfef_21 : decode cJ2_indexOfSupplementary_4cfef 21 = .ok (.aload_n 0, 1) := by decide +kernel
theorem dJ2_indexOfSupplementary_4cfef_22 : decode cJ2_indexOfSupplementary_4cfef 22 = .ok (.invokestatic 96, 3) := by decide +kernel
theorem dJ2_indexOfSupplementary_4cfef_25 : decode cJ2_indexOfSupplementary_4cfef 25 = .ok (.iload_n 2, 1) := by decide +kernel
theorem dJ2_indexOfSupplementary_4cfef_26 : decode cJ2_indexOfSupplementary_4cfef 26 = .ok (.istore 6, 2) := by decide +kernel
theorem dJ2_indexOfSupplementary_4cfef_28 : decode cJ2_indexOfSupplementary_4cfef 28 = .ok (.iload 6, 2) := by decide +kernel
theorem dJ2_indexOfSupplementary_4cfef_30 : decode cJ2_indexOfSupplementary_4cfef 30 = .ok (.iload_n 3, 1) := by decide +kernel
theorem dJ2_indexOfSupplementary_4cfef_31 : decode cJ2_indexOfSupplementary_4cfef 31 = .ok (.iconst 1, 1) := by decide +kernel
theorem dJ2_indexOfSupplementary_4cfef_32 : decode cJ2_indexOfSupplementary_4cfef 32 = .ok (.isub, 1) := by decide +kernel
theorem dJ2_indexOfSupplementary_4cfef_33 : decode cJ2_indexOfSupplementary_4cfef 33 = .ok (.if_icmp .ge 36, 3) := by decide +kernel
theorem dJ2_indexOfSupplementary_4cfef_36 : decode cJ2_indexOfSupplementary_4cfef 36 = .ok (.aload_n 0, 1) := by decide +kernel
theorem dJ2_indexOfSupplementary_4cfef_37 : decode cJ2_indexOfSupplementary_4cfef 37 = .ok (.iload 6, 2) := by decide +kernel
theorem dJ2_indexOfSupplementary_4cfef_39 : decode cJ2_indexOfSupplementary_4cfef 39 = .ok (.invokestatic 71, 3) := by decide +kernel
theorem dJ2_indexOfSupplementary_4cfef_42 : decode cJ2_indexOfSupplementary_4cfef 42 = .ok (.iload 4, 2) := by decide +kernel
theorem dJ2_indexOfSupplementary_4cfef_44 : decode cJ2_indexOfSupplementary_4cfef 44 = .ok (.if_icmp .ne 19, 3) := by decide +kernel
theorem dJ2_indexOfSupplementary_4cfef_47 : decode cJ2_indexOfSupplementary_4cfef 47 = .ok (.aload_n 0, 1) := by decide +kernel
theorem dJ2_indexOfSupplementary_4cfef_48 : decode cJ2_indexOfSupplementary_4cfef 48 = .ok (.iload 6, 2) := by decide +kernel
theorem dJ2_indexOfSupplementary_4cfef_50 : decode cJ2_indexOfSupplementary_4cfef 50 = .ok (.iconst 1, 1) := by decide +kernel
theorem dJ2_indexOfSupplementary_4cfef_51 : decode cJ2_indexOfSupplementary_4cfef 51 = .ok (.iadd, 1) := by decide +kernel
theorem dJ2_indexOfSupplementary_4cfef_52 : decode cJ2_indexOfSupplementary_4cfef 52 = .ok (.invokestatic 71, 3) := by decide +kernel
theorem dJ2_indexOfSupplementary_4cfef_55 : decode cJ2_indexOfSupplementary_4cfef 55 = .ok (.iload 5, 2) := by decide +kernel
theorem dJ2_indexOfSupplementary_4cfef_57 : decode cJ2_indexOfSupplementary_4cfef 57 = .ok (.if_icmp .ne 6, 3) := by decide +kernel
theorem dJ2_indexOfSupplementary_4cfef_60 : decode cJ2_indexOfSupplementary_4cfef 60 = .ok (.iload 6, 2) := by decide +kernel
theorem dJ2_indexOfSupplementary_4cfef_62 : decode cJ2_indexOfSupplementary_4cfef 62 = .ok (.ireturn, 1) := by decide +kernel
theorem dJ2_indexOfSupplementary_4cfef_63 : decode cJ2_indexOfSupplementary_4cfef 63 = .ok (.iinc 6 1, 3) := by decide +kernel
theorem dJ2_indexOfSupplementary_4cfef_66 : decode cJ2_indexOfSupplementary_4cfef 66 = .ok (.goto (-38), 3) := by decide +kernel
theorem dJ2_indexOfSupplementary_4cfef_69 : decode cJ2_indexOfSupplementary_4cfef 69 = .ok (.iconst (-1), 1) := by decide +kernel
theorem dJ2_indexOfSupplementary_4cfef_70 : decode cJ2_indexOfSupplementary_4cfef 70 = .ok (.ireturn, 1) := by decide +kernel
set_option maxRecDepth 20000 in
theorem ggJ2_charAt_3b067_J2_checkIndex_2214a : GoodIn wsJ2_charAt_3b067 wsJ2_checkIndex_2214a := goodIn_r _ [4, 5, 6, 3, 7, 8, 9, 10, 11, 12, 13, 14, 15, 16] (by decide +kernel) (by decide +kernel)
set_option maxRecDepth 20000 in
theorem gJ2_charAt_3b067_J2_checkIndex_2214a : GoodIn wsJ2_charAt_3b067 (va_wsS RJ2 67 yJ2_checkIndex_2214a wsJ2_checkIndex_2214a) := goodIn_app (goodIn_of _ (by decide +kernel)) ggJ2_charAt_3b067_J2_checkIndex_2214a
set_option maxRecDepth 20000 in
theorem ggJ2_charAt_3b067_J2_getChar_3b067 : GoodIn wsJ2_charAt_3b067 wsJ2_getChar_3b067 := goodIn_r _ [19, 20, 21, 22, 5, 6, 3, 7] (by decide +kernel) (by decide +kernel)
set_option maxRecDepth 20000 in
theorem gJ2_charAt_3b067_J2_getChar_3b067 : GoodIn wsJ2_charAt_3b067 (va_wsS RJ2 71 yJ2_getChar_3b067 wsJ2_getChar_3b067) := goodIn_app (goodIn_of _ (by decide +kernel)) ggJ2_charAt_3b067_J2_getChar_3b067
theorem dJ2_charAt_3b067_0 : decode cJ2_charAt_3b067 0 = .ok (.iload_n 1, 1) := by decide +kernel
theorem dJ2_charAt_3b067_1 : decode cJ2_charAt_3b067 1 = .ok (.aload_n 0, 1) := by decide +kernel
theorem dJ2_charAt_3b067_2 : decode cJ2_charAt_3b067 2 = .ok (.invokestatic 67, 3) := by decide +kernel
theorem dJ2_charAt_3b067_5 : decode cJ2_charAt_3b067 5 = .ok (.aload_n 0, 1) := by decide +kernel
theorem dJ2_charAt_3b067_6 : decode cJ2_charAt_3b067 6 = .ok (.iload_n 1, 1) := by decide +kernel
theorem dJ2_charAt_3b067_7 : decode cJ2_charAt_3b067 7 = .ok (.invokestatic 71, 3) := by decide +kernel
theorem dJ2_charAt_3b067_10 : decode cJ2_charAt_3b067 10 = .ok (.ireturn, 1) := by decide +kernel
set_option maxRecDepth 20000 in
theorem ggJ2_checkIndex_2214a_J2_length_9d52b : GoodIn wsJ2_checkIndex_2214a wsJ2_length_9d52b := goodIn_r _ [4] (by decide +kernel) (by decide +kernel)
set_option maxRecDepth 20000 in
theorem gJ2_checkIndex_2214a_J2_length_9d52b : GoodIn wsJ2_checkIndex_2214a (va_wsS RJ2 48 yJ2_length_9d52b wsJ2_length_9d52b) := goodIn_app (goodIn_of _ (by decide +kernel)) ggJ2_checkIndex_2214a_J2_length_9d52b
set_option maxRecDepth 20000 in
theorem ggJ2_checkIndex_2214a_J0_checkIndex_df160 : GoodIn wsJ2_checkIndex_2214a wsJ0_checkIndex_df160 := goodIn_r _ [8, 9, 10, 11, 12, 13] (by decide +kernel) (by decide +kernel)
set_option maxRecDepth 20000 in
theorem gJ2_checkIndex_2214a_J0_checkIndex_df160 : GoodIn wsJ2_checkIndex_2214a (va_wsS RJ2 414 yJ0_checkIndex_df160 wsJ0_checkIndex_df160) := goodIn_app (goodIn_of _ (by decide +kernel)) ggJ2_checkIndex_2214a_J0_checkIndex_df160
theorem dJ2_checkIndex_2214a_0 : decode cJ2_checkIndex_2214a 0 = .ok (.iload_n 0, 1) := by decide +kernel
theorem dJ2_checkIndex_2214a_1 : decode cJ2_checkIndex_2214a 1 = .ok (.aload_n 1, 1) := by decide +kernel
theorem dJ2_checkIndex_2214a_2 : decode cJ2_checkIndex_2214a 2 = .ok (.invokestatic 48, 3) := by decide +kernel
theorem dJ2_checkIndex_2214a_5 : decode cJ2_checkIndex_2214a 5 = .ok (.invokestatic 414, 3) := by decide +kernel
theorem dJ2_checkIndex_2214a_8 : decode cJ2_checkIndex_2214a 8 = .ok (.return_, 1) := by decide +kernel
set_option maxRecDepth 20000 in
theorem ggJ2_checkBoundsBeginEnd_d044e_J2_length_9d52b : GoodIn wsJ2_checkBoundsBeginEnd_d044e wsJ2_length_9d52b := goodIn_r _ [4] (by decide +kernel) (by decide +kernel)
set_option maxRecDepth 20000 in
theorem gJ2_checkBoundsBeginEnd_d044e_J2_length_9d52b : GoodIn wsJ2_checkBoundsBeginEnd_d044e (va_wsS RJ2 48 yJ2_length_9d52b wsJ2_length_9d52b) := goodIn_app (goodIn_of _ (by decide +kernel)) ggJ2_checkBoundsBeginEnd_d044e_J2_length_9d52b
set_option maxRecDepth 20000 in
theorem ggJ2_checkBoundsBeginEnd_d044e_J0_checkBoundsBeginEnd_23922 : GoodIn wsJ2_checkBoundsBeginEnd_d044e wsJ0_checkBoundsBeginEnd_23922 := goodIn_r _ [8, 9, 10, 11, 12, 13] (by decide +kernel) (by decide +kernel)
set_option maxRecDepth 20000 in
theorem gJ2_checkBoundsBeginEnd_d044e_J0_checkBoundsBeginEnd_23922 : GoodIn wsJ2_checkBoundsBeginEnd_d044e (va_wsS RJ2 241 yJ0_checkBoundsBeginEnd_23922 wsJ0_checkBoundsBeginEnd_23922) := goodIn_app (goodIn_of _ (by decide +kernel)) ggJ2_checkBoundsBeginEnd_d044e_J0_checkBoundsBeginEnd_23922
theorem dJ2_checkBoundsBeginEnd_d044e_0 : decode cJ2_checkBoundsBeginEnd_d044e 0 = .ok (.iload_n 0, 1) := by decide +kernel
theorem dJ2_checkBoundsBeginEnd_d044e_1 : decode cJ2_checkBoundsBeginEnd_d044e 1 = .ok (.iload_n 1, 1) := by decide +kernel
theorem dJ2_checkBoundsBeginEnd_d044e_2 : decode cJ2_checkBoundsBeginEnd_d044e 2 = .ok (.aload_n 2, 1) := by decide +kernel
theorem dJ2_checkBoundsBeginEnd_d044e_3 : decode cJ2_checkBoundsBeginEnd_d044e 3 = .ok (.invokestatic 48, 3) := by decide +kernel
theorem dJ2_checkBoundsBeginEnd_d044e_6 : decode cJ2_checkBoundsBeginEnd_d044e 6 = .ok (.invokestatic 241, 3) := by decide +kernel
theorem dJ2_checkBoundsBeginEnd_d044e_9 : decode cJ2_checkBoundsBeginEnd_d044e 9 = .ok (.return_, 1) := by decide +kernel
theorem dJ3_checkIndex_8e157_0 : decode cJ3_checkIndex_8e157 0 = .ok (.iload_n 0, 1) := by decide +kernel
theorem dJ3_checkIndex_8e157_1 : decode cJ3_checkIndex_8e157 1 = .ok (.ifCond .lt 8, 3) := by decide +kernel
theorem dJ3_checkIndex_8e157_4 : decode cJ3_checkIndex_8e157 4 = .ok (.iload_n 0, 1) := by decide +kernel
theorem dJ3_checkIndex_8e157_5 : decode cJ3_checkIndex_8e157 5 = .ok (.iload_n 1, 1) := by decide +kernel
theorem dJ3_checkIndex_8e157_6 : decode cJ3_checkIndex_8e157 6 = .ok (.if_icmp .lt 10, 3) := by decide +kernel
theorem dJ3_checkIndex_8e157_9 : decode cJ3_checkIndex_8e157 9 = .ok (.aload_n 2, 1) := by decide +kernel
theorem dJ3_checkIndex_8e157_10 : decode cJ3_checkIndex_8e157 10 = .ok (.iload_n 0, 1) := by decide +kernel
theorem dJ3_checkIndex_8e157_11 : decode cJ3_checkIndex_8e157 11 = .ok (.iload_n 1, 1) := by decide +kernel
theorem dJ3_checkIndex_8e157_12 : decode cJ3_checkIndex_8e157 12 = .ok (.invokestatic 95, 3) := by decide +kernel
theorem dJ3_checkIndex_8e157_15 : decode cJ3_checkIndex_8e157 15 = .ok (.athrow, 1) := by decide +kernel
theorem dJ3_checkIndex_8e157_16 : decode cJ3_checkIndex_8e157 16 = .ok (.iload_n 0, 1) := by decide +kernel
theorem dJ3_checkIndex_8e157_17 : decode cJ3_checkIndex_8e157 17 = .ok (.ireturn, 1) := by decide +kernel
theorem dJ3_checkFromToIndex_8c36e_0 : decode cJ3_checkFromToIndex_8c36e 0 = .ok (.iload_n 0, 1) := by decide +kernel
theorem dJ3_checkFromToIndex_8c36e_1 : decode cJ3_checkFromToIndex_8c36e 1 = .ok (.ifCond .lt 13, 3) := by decide +kernel
theorem dJ3_checkFromToIndex_8c36e_4 : decode cJ3_checkFromToIndex_8c36e 4 = .ok (.iload_n 0, 1) := by decide +kernel
theorem dJ3_checkFromToIndex_8c36e_5 : decode cJ3_checkFromToIndex_8c36e 5 = .ok (.iload_n 1, 1) := by decide +kernel
theorem dJ3_checkFromToIndex_8c36e_6 : decode cJ3_checkFromToIndex_8c36e 6 = .ok (.if_icmp .gt 8, 3) := by decide +kernel
theorem dJ3_checkFromToIndex_8c36e_9 : decode cJ3_checkFromToIndex_8c36e 9 = .ok (.iload_n 1, 1) := by decide +kernel
theorem dJ3_checkFromToIndex_8c36e_10 : decode cJ3_checkFromToIndex_8c36e 10 = .ok (.iload_n 2, 1) := by decide +kernel
theorem dJ3_checkFromToIndex_8c36e_11 : decode cJ3_checkFromToIndex_8c36e 11 = .ok (.if_icmp .le 11, 3) := by decide +kernel
theorem dJ3_checkFromToIndex_8c36e_14 : decode cJ3_checkFromToIndex_8c36e 14 = .ok (.aload_n 3, 1) := by decide +kernel
theorem dJ3_checkFromToIndex_8c36e_15 : decode cJ3_checkFromToIndex_8c36e 15 = .ok (.iload_n 0, 1) := by decide +kernel
theorem dJ3_checkFromToIndex_8c36e_16 : decode cJ3_checkFromToIndex_8c36e 16 = .ok (.iload_n 1, 1) := by decide +kernel
theorem dJ3_checkFromToIndex_8c36e_17 : decode cJ3_checkFromToIndex_8c36e 17 = .ok (.iload_n 2, 1) := by decide +kernel
theorem dJ3_checkFromToIndex_8c36e_18 : decode cJ3_checkFromToIndex_8c36e 18 = .ok (.invokestatic 99, 3) := by decide +kernel
theorem dJ3_checkFromToIndex_8c36e_21 : decode cJ3_checkFromToIndex_8c36e 21 = .ok (.athrow, 1) := by decide +kernel
theorem dJ3_checkFromToIndex_8c36e_22 : decode cJ3_checkFromToIndex_8c36e 22 = .ok (.iload_n 0, 1) := by decide +kernel
theorem dJ3_checkFromToIndex_8c36e_23 : decode cJ3_checkFromToIndex_8c36e 23 = .ok (.ireturn, 1) := by decide +kernel

theorem dX4_isSum_12 : decode cX4_isSum 12 = .ok (.if_icmp .ge 77, 3) := by decide +kernel
theorem dX4_isSum_15 : decode cX4_isSum 15 = .ok (.iload_n 2, 1) := by decide +kernel
theorem dX4_isSum_16 : decode cX4_isSum 16 = .ok (.ifCond .eq 73, 3) := by decide +kernel
theorem dX4_isSum_19 : decode cX4_isSum 19 = .ok (.aload_n 0, 1) := by decide +kernel
theorem dX4_isSum_20 : decode cX4_isSum 20 = .ok (.getfield 41, 3) := by decide +kernel
theorem dX4_isSum_23 : decode cX4_isSum 23 = .ok (.bipush 43, 2) := by decide +kernel
theorem dX4_isSum_25 : decode cX4_isSum 25 = .ok (.if_icmp .eq 12, 3) := by decide +kernel
theorem dX4_isSum_28 : decode cX4_isSum 28 = .ok (.aload_n 0, 1) := by decide +kernel
theorem dX4_isSum_29 : decode cX4_isSum 29 = .ok (.getfield 41, 3) := by decide +kernel
theorem dX4_isSum_32 : decode cX4_isSum 32 = .ok (.bipush 45, 2) := by decide +kernel
theorem dX4_isSum_34 : decode cX4_isSum 34 = .ok (.if_icmp .ne 55, 3) := by decide +kernel
theorem dX4_isSum_37 : decode cX4_isSum 37 = .ok (.aload_n 0, 1) := by decide +kernel
theorem dX4_isSum_38 : decode cX4_isSum 38 = .ok (.getfield 41, 3) := by decide +kernel
theorem dX4_isSum_41 : decode cX4_isSum 41 = .ok (.bipush 43, 2) := by decide +kernel
theorem dX4_isSum_43 : decode cX4_isSum 43 = .ok (.if_icmp .ne 8, 3) := by decide +kernel
theorem dX4_isSum_46 : decode cX4_isSum 46 = .ok (.bipush (-9), 2) := by decide +kernel
theorem dX4_isSum_48 : decode cX4_isSum 48 = .ok (.goto 5, 3) := by decide +kernel
theorem dX4_isSum_51 : decode cX4_isSum 51 = .ok (.bipush (-10), 2) := by decide +kernel
theorem dX4_isSum_53 : decode cX4_isSum 53 = .ok (.istore 4, 2) := by decide +kernel
theorem dX4_isSum_55 : decode cX4_isSum 55 = .ok (.aload_n 0, 1) := by decide +kernel
theorem dX4_isSum_56 : decode cX4_isSum 56 = .ok (.invokevirtual 31, 3) := by decide +kernel
theorem dX4_isSum_59 : decode cX4_isSum 59 = .ok (.aload_n 0, 1) := by decide +kernel
theorem dX4_isSum_60 : decode cX4_isSum 60 = .ok (.iload_n 1, 1) := by decide +kernel
theorem dX4_isSum_61 : decode cX4_isSum 61 = .ok (.invokevirtual 74, 3) := by decide +kernel
theorem dX4_isSum_64 : decode cX4_isSum 64 = .ok (.ifCond .eq 17, 3) := by decide +kernel
theorem dX4_isSum_67 : decode cX4_isSum 67 = .ok (.aload_n 0, 1) := by decide +kernel
theorem dX4_isSum_68 : decode cX4_isSum 68 = .ok (.iload 4, 2) := by decide +kernel
theorem dX4_isSum_70 : decode cX4_isSum 70 = .ok (.iconst 1, 1) := by decide +kernel
theorem dX4_isSum_71 : decode cX4_isSum 71 = .ok (.invokevirtual 61, 3) := by decide +kernel
theorem dX4_isSum_74 : decode cX4_isSum 74 = .ok (.ifCond .eq 7, 3) := by decide +kernel
theorem dX4_isSum_77 : decode cX4_isSum 77 = .ok (.iconst 1, 1) := by decide +kernel
theorem dX4_isSum_78 : decode cX4_isSum 78 = .ok (.goto 4, 3) := by decide +kernel
theorem dX4_isSum_81 : decode cX4_isSum 81 = .ok (.iconst 0, 1) := by decide +kernel
theorem dX4_isSum_82 : decode cX4_isSum 82 = .ok (.istore_n 2, 1) := by decide +kernel
theorem dX4_isSum_83 : decode cX4_isSum 83 = .ok (.iinc 3 1, 3) := by decide +kernel
theorem dX4_isSum_86 : decode cX4_isSum 86 = .ok (.goto (-78), 3) := by decide +kernel
theorem dX4_isSum_89 : decode cX4_isSum 89 = .ok (.iload_n 2, 1) := by decide +kernel
theorem dX4_isSum_90 : decode cX4_isSum 90 = .ok (.ireturn, 1) := by decide +kernel
set_option maxRecDepth 20000 in
theorem ggX4_isTerm_X4_isOne : GoodIn wsX4_isTerm wsX4_isOne := goodIn_r _ [165, 1, 6, 7, 8, 5, 9, 10, 11, 12, 13, 14, 15, 16, 17, 18, 19, 20, 21, 22, 23, 24, 25, 26, 27, 28, 29, 30, 31, 32, 33, 34, 35, 36, 37, 38, 39, 40, 41, 42, 43, 44, 45, 46, 47, 48, 49, 50, 51, 52, 53, 54, 55, 56, 57, 58, 59, 60, 61, 62, 63, 64, 65, 66, 67, 68, 69, 70, 71, 72, 73, 74, 75, 76, 77, 78, 79, 80, 81, 82, 83, 84, 85, 86, 87, 88, 89, 90, 91, 92, 93, 94, 95, 96, 97, 98, 99, 100, 101, 102, 103, 104, 105, 106, 107, 108, 109, 110, 111, 112, 113, 114, 115, 116, 117, 118, 119, 120, 121, 122, 123, 124, 125, 126, 127, 128, 129, 130, 131, 132, 133, 134, 135, 136, 137, 138, 139, 140, 141, 142, 166, 167, 168, 143, 144, 145, 146, 147, 148, 149, 150, 151, 152, 153, 154, 155, 156, 157, 158, 159, 160, 161, 162, 163, 164, 169, 170, 171, 172, 0, 2, 3, 4, 173, 174, 175, 176, 177, 178, 179, 180, 181, 182, 183, 184, 185, 186, 187, 188, 189] rfl (by decide +kernel)
set_option maxRecDepth 20000 in
theorem gX4_isTerm_X4_isOne : GoodIn wsX4_isTerm (wsV RX4 77 RX4 yX4_isOne wsX4_isOne) := goodIn_app (goodIn_of _ (by decide +kernel)) ggX4_isTerm_X4_isOne
set_option maxRecDepth 20000 in
theorem ggX4_isTerm_X4_advance : GoodIn wsX4_isTerm wsX4_advance := goodIn_r _ [9, 10, 11, 12, 13, 1, 14, 15, 5, 16, 17, 18, 19, 20, 21, 22, 23, 24, 25, 26, 27, 28, 29, 30, 31, 32, 33, 34, 35, 36, 37, 38, 39, 40, 41, 42, 43, 44, 45, 46, 47, 48, 49, 50, 51, 52, 53, 54, 55, 56, 57, 58, 59, 60, 61, 62, 63, 64, 65, 66, 67, 68, 69, 70, 71, 72, 73, 74, 75, 76, 77, 78, 79, 80, 81, 82, 83, 84, 85, 86, 87, 88, 89, 90, 91, 92, 93, 94, 95, 96, 97, 98, 99, 100, 101, 102, 103, 104, 105, 106, 107, 108, 109, 110, 111, 112, 113, 114, 115, 116, 117, 118, 119, 120, 121, 122, 123, 124, 125, 126, 127, 128, 129, 130, 131, 132, 133, 134, 135, 136, 137, 138, 139, 140, 141, 142, 181, 182, 183, 184, 185, 186, 187, 188, 189] rfl (by decide +kernel)
set_option maxRecDepth 20000 in
theorem gX4_isTerm_X4_advance : GoodIn wsX4_isTerm (wsV RX4 31 RX4 yX4_advance wsX4_advance) := goodIn_app (goodIn_of _ (by decide +kernel)) ggX4_isTerm_X4_advance
set_option maxRecDepth 20000 in
theorem ggX4_isTerm_X4_isNoted : GoodIn wsX4_isTerm wsX4_isNoted := goodIn_r _ [146, 147, 148, 181, 182, 183, 184, 185, 186, 187, 188, 189] rfl (by decide +kernel)
set_option maxRecDepth 20000 in
theorem gX4_isTerm_X4_isNoted : GoodIn wsX4_isTerm (wsV RX4 61 RX4 yX4_isNoted wsX4_isNoted) := goodIn_app (goodIn_of _ (by decide +kernel)) ggX4_isTerm_X4_isNoted
theorem dX4_isTerm_0 : decode cX4_isTerm 0 = .ok (.aload_n 0, 1) := by decide +kernel
theorem dX4_isTerm_1 : decode cX4_isTerm 1 = .ok (.iload_n 1, 1) := by decide +kernel
theorem dX4_isTerm_2 : decode cX4_isTerm 2 = .ok (.invokevirtual 77, 3) := by decide +kernel
theorem dX4_isTerm_5 : decode cX4_isTerm 5 = .ok (.istore_n 2, 1) := by decide +kernel
theorem dX4_isTerm_6 : decode cX4_isTerm 6 = .ok (.iconst 0, 1) := by decide +kernel
theorem dX4_isTerm_7 : decode cX4_isTerm 7 = .ok (.istore_n 3, 1) := by decide +kernel
theorem dX4_isTerm_8 : decode cX4_isTerm 8 = .ok (.iload_n 3, 1) := by decide +kernel
theorem dX4_isTerm_9 : decode cX4_isTerm 9 = .ok (.sipush 160, 3) := by decide +kernel
theorem dX4_isTerm_12 : decode cX4_isTerm 12 = .ok (.if_icmp .ge 50, 3) := by decide +kernel
theorem dX4_isTerm_15 : decode cX4_isTerm 15 = .ok (.iload_n 2, 1) := by decide +kernel
theorem dX4_isTerm_16 : decode cX4_isTerm 16 = .ok (.ifCond .eq 46, 3) := by decide +kernel
theorem dX4_isTerm_19 : decode cX4_isTerm 19 = .ok (.aload_n 0, 1) := by decide +kernel
theorem dX4_isTerm_20 : decode cX4_isTerm 20 = .ok (.getfield 41, 3) := by decide +kernel
theorem dX4_isTerm_23 : decode cX4_isTerm 23 = .ok (.bipush 42, 2) := by decide +kernel
theorem dX4_isTerm_25 : decode cX4_isTerm 25 = .ok (.if_icmp .ne 37, 3) := by decide +kernel
theorem dX4_isTerm_28 : decode cX4_isTerm 28 = .ok (.aload_n 0, 1) := by decide +kernel
theorem dX4_isTerm_29 : decode cX4_isTerm 29 = .ok (.invokevirtual 31, 3) := by decide +kernel
theorem dX4_isTerm_32 : decode cX4_isTerm 32 = .ok (.aload_n 0, 1) := by decide +kernel
theorem dX4_isTerm_33 : decode cX4_isTerm 33 = .ok (.iload_n 1, 1) := by decide +kernel
theorem dX4_isTerm_34 : decode cX4_isTerm 34 = .ok (.invokevirtual 77, 3) := by decide +kernel
theorem dX4_isTerm_37 : decode cX4_isTerm 37 = .ok (.ifCond .eq 17, 3) := by decide +kernel
theorem dX4_isTerm_40 : decode cX4_isTerm 40 = .ok (.aload_n 0, 1) := by decide +kernel
theorem dX4_isTerm_41 : decode cX4_isTerm 41 = .ok (.bipush (-11), 2) := by decide +kernel
theorem dX4_isTerm_43 : decode cX4_isTerm 43 = .ok (.iconst 1, 1) := by decide +kernel
theorem dX4_isTerm_44 : decode cX4_isTerm 44 = .ok (.invokevirtual 61, 3) := by decide +kernel
theorem dX4_isTerm_47 : decode cX4_isTerm 47 = .ok (.ifCond .eq 7, 3) := by decide +kernel
theorem dX4_isTerm_50 : decode cX4_isTerm 50 = .ok (.iconst 1, 1) := by decide +kernel
theorem dX4_isTerm_51 : decode cX4_isTerm 51 = .ok (.goto 4, 3) := by decide +kernel
theorem dX4_isTerm_54 : decode cX4_isTerm 54 = .ok (.iconst 0, 1) := by decide +kernel
theorem dX4_isTerm_55 : decode cX4_isTerm 55 = .ok (.istore_n 2, 1) := by decide +kernel
theorem dX4_isTerm_56 : decode cX4_isTerm 56 = .ok (.iinc 3 1, 3) := by decide +kernel
theorem dX4_isTerm_59 : decode cX4_isTerm 59 = .ok (.goto (-51), 3) := by decide +kernel
theorem dX4_isTerm_62 : decode cX4_isTerm 62 = .ok (.iload_n 2, 1) := by decide +kernel
theorem dX4_isTerm_63 : decode cX4_isTerm 63 = .ok (.ireturn, 1) := by decide +kernel
set_option maxRecDepth 20000 in
theorem ggX4_isOne_X4_advance : GoodIn wsX4_isOne wsX4_advance := goodIn_r _ [6, 7, 8, 9, 10, 1, 11, 12, 5, 13, 14, 15, 16, 17, 18, 19, 20, 21, 22, 23, 24, 25, 26, 27, 28, 29, 30, 31, 32, 33, 34, 35, 36, 37, 38, 39, 40, 41, 42, 43, 44, 45, 46, 47, 48, 49, 50, 51, 52, 53, 54, 55, 56, 57, 58, 59, 60, 61, 62, 63, 64, 65, 66, 67, 68, 69, 70, 71, 72, 73, 74, 75, 76, 77, 78, 79, 80, 81, 82, 83, 84, 85, 86, 87, 88, 89, 90, 91, 92, 93, 94, 95, 96, 97, 98, 99, 100, 101, 102, 103, 104, 105, 106, 107, 108, 109, 110, 111, 112, 113, 114, 115, 116, 117, 118, 119, 120, 121, 122, 123, 124, 125, 126, 127, 128, 129, 130, 131, 132, 133, 134, 135, 136, 137, 138, 139, 181, 182, 183, 184, 185, 186, 187, 188, 189] rfl (by decide +kernel)
set_option maxRecDepth 20000 in
theorem gX4_isOne_X4_advance : GoodIn wsX4_isOne (wsV RX4 31 RX4 yX4_advance wsX4_advance) := goodIn_app (goodIn_of _ (by decide +kernel)) ggX4_isOne_X4_advance
set_option maxRecDepth 20000 in
theorem ggX4_isOne_X4_isUnsigned : GoodIn wsX4_isOne wsX4_isUnsigned := goodIn_r _ [173, 1, 18, 143, 144, 145, 5, 146, 147, 148, 174, 175, 176, 177, 2, 3, 4, 6, 7, 8, 9, 10, 11, 12, 13, 14, 15, 16, 17, 19, 20, 21, 22, 23, 24, 25, 26, 27, 28, 29, 30, 31, 32, 33, 34, 35, 36, 37, 38, 39, 40, 41, 42, 43, 44, 45, 46, 47, 48, 49, 50, 51, 52, 53, 54, 55, 56, 57, 58, 59, 60, 61, 62, 63, 64, 65, 66, 67, 68, 69, 70, 71, 72, 73, 74, 75, 76, 77, 78, 79, 80, 81, 82, 83, 84, 85, 86, 87, 88, 89, 90, 91, 92, 93, 94, 95, 96, 97, 98, 99, 100, 101, 102, 103, 104, 105, 106, 107, 108, 109, 110, 111, 112, 113, 114, 115, 116, 117, 118, 119, 120, 121, 122, 123, 124, 125, 126, 127, 128, 129, 130, 131, 132, 133, 134, 135, 136, 137, 138, 139, 178, 179, 180, 149, 150, 151, 152, 153, 154, 155, 156, 157, 158, 159, 160, 161, 162, 163, 164, 0, 140, 141, 142, 165, 166, 167, 168, 169, 170, 171, 172, 181, 182, 183, 184, 185, 186, 187, 188, 189] rfl (by decide +kernel)
set_option maxRecDepth 20000 in
theorem gX4_isOne_X4_isUnsigned : GoodIn wsX4_isOne (wsV RX4 80 RX4 yX4_isUnsigned wsX4_isUnsigned) := goodIn_app (goodIn_of _ (by decide +kernel)) ggX4_isOne_X4_isUnsigned
set_option maxRecDepth 20000 in
theorem ggX4_isOne_X4_isNoted : GoodIn wsX4_isOne wsX4_isNoted := goodIn_r _ [146, 147, 148, 181, 182, 183, 184, 185, 186, 187, 188, 189] rfl (by decide +kernel)
set_option maxRecDepth 20000 in
theorem gX4_isOne_X4_isNoted : GoodIn wsX4_isOne (wsV RX4 61 RX4 yX4_isNoted wsX4_isNoted) := goodIn_app (goodIn_of _ (by decide +kernel)) ggX4_isOne_X4_isNoted
theorem dX4_isOne_0 : decode cX4_isOne 0 = .ok (.iload_n 1, 1) := by decide +kernel
theorem dX4_isOne_1 : decode cX4_isOne 1 = .ok (.istore_n 2, 1) := by decide +kernel
theorem dX4_isOne_2 : decode cX4_isOne 2 = .ok (.iload_n 2, 1) := by decide +kernel
theorem dX4_isOne_3 : decode cX4_isOne 3 = .ok (.iconst 5, 1) := by decide +kernel
theorem dX4_isOne_4 : decode cX4_isOne 4 = .ok (.if_icmp .ge 22, 3) := by decide +kernel
theorem dX4_isOne_7 : decode cX4_isOne 7 = .ok (.aload_n 0, 1) := by decide +kernel
theorem dX4_isOne_8 : decode cX4_isOne 8 = .ok (.getfield 41, 3) := by decide +kernel
theorem dX4_isOne_11 : decode cX4_isOne 11 = .ok (.bipush 45, 2) := by decide +kernel
theorem dX4_isOne_13 : decode cX4_isOne 13 = .ok (.if_icmp .ne 13, 3) := by decide +kernel
theorem dX4_isOne_16 : decode cX4_isOne 16 = .ok (.aload_n 0, 1) := by decide +kernel
theorem dX4_isOne_17 : decode cX4_isOne 17 = .ok (.invokevirtual 31, 3) := by decide +kernel
theorem dX4_isOne_20 : decode cX4_isOne 20 = .ok (.iinc 2 1, 3) := by decide +kernel
theorem dX4_isOne_23 : decode cX4_isOne 23 = .ok (.goto (-21), 3) := by decide +kernel
theorem dX4_isOne_26 : decode cX4_isOne 26 = .ok (.aload_n 0, 1) := by decide +kernel
theorem dX4_isOne_27 : decode cX4_isOne 27 = .ok (.iload_n 2, 1) := by decide +kernel
theorem dX4_isOne_28 : decode cX4_isOne 28 = .ok (.invokevirtual 80, 3) := by decide +kernel
theorem dX4_isOne_31 : decode cX4_isOne 31 = .ok (.ifCond .eq 19, 3) := by decide +kernel
theorem dX4_isOne_34 : decode cX4_isOne 34 = .ok (.aload_n 0, 1) := by decide +kernel
theorem dX4_isOne_35 : decode cX4_isOne 35 = .ok (.bipush (-7), 2) := by decide +kernel
theorem dX4_isOne_37 : decode cX4_isOne 37 = .ok (.iload_n 2, 1) := by decide +kernel
theorem dX4_isOne_38 : decode cX4_isOne 38 = .ok (.iload_n 1, 1) := by decide +kernel
theorem dX4_isOne_39 : decode cX4_isOne 39 = .ok (.isub, 1) := by decide +kernel
theorem dX4_isOne_40 : decode cX4_isOne 40 = .ok (.invokevirtual 61, 3) := by decide +kernel
theorem dX4_isOne_43 : decode cX4_isOne 43 = .ok (.ifCond .eq 7, 3) := by decide +kernel
theorem dX4_isOne_46 : decode cX4_isOne 46 = .ok (.iconst 1, 1) := by decide +kernel
theorem dX4_isOne_47 : decode cX4_isOne 47 = .ok (.goto 4, 3) := by decide +kernel
theorem dX4_isOne_50 : decode cX4_isOne 50 = .ok (.iconst 0, 1) := by decide +kernel
theorem dX4_isOne_51 : decode cX4_isOne 51 = .ok (.ireturn, 1) := by decide +kernel
set_option maxRecDepth 20000 in
theorem ggX4_isUnsigned_X4_isNoted : GoodIn wsX4_isUnsigned wsX4_isNoted := goodIn_r _ [7, 8, 9, 181, 182, 183, 184, 185, 186, 187, 188, 189] rfl (by decide +kernel)
set_option maxRecDepth 20000 in
theorem gX4_isUnsigned_X4_isNoted : GoodIn wsX4_isUnsigned (wsV RX4 61 RX4 yX4_isNoted wsX4_isNoted) := goodIn_app (goodIn_of _ (by decide +kernel)) ggX4_isUnsigned_X4_isNoted
set_option maxRecDepth 20000 in
theorem ggX4_isUnsigned_X4_isTaken : GoodIn wsX4_isUnsigned wsX4_isTaken := goodIn_r _ [13, 1, 14, 15, 16, 6, 17, 18, 19, 20, 21, 22, 23, 24, 25, 26, 27, 28, 2, 29, 30, 31, 32, 33, 34, 35, 36, 37, 38, 39, 40, 41, 42, 43, 44, 45, 46, 47, 48, 49, 50, 51, 52, 53, 54, 55, 56, 57, 58, 59, 60, 61, 62, 63, 64, 65, 66, 67, 68, 69, 70, 71, 72, 73, 74, 75, 76, 77, 78, 79, 80, 81, 82, 83, 84, 85, 86, 87, 88, 89, 90, 91, 92, 93, 94, 95, 96, 97, 98, 99, 100, 101, 102, 103, 104, 105, 106, 107, 108, 109, 110, 111, 112, 113, 114, 115, 116, 117, 118, 119, 120, 121, 122, 123, 124, 125, 126, 127, 128, 129, 130, 131, 132, 133, 134, 135, 136, 137, 138, 139, 140, 141, 142, 143, 144, 145, 146, 147, 148, 149, 181, 182, 183, 184, 185, 186, 187, 188, 189] rfl (by decide +kernel)
set_option maxRecDepth 20000 in
theorem gX4_isUnsigned_X4_isTaken : GoodIn wsX4_isUnsigned (wsV RX4 34 RX4 yX4_isTaken wsX4_isTaken) := goodIn_app (goodIn_of _ (by decide +kernel)) ggX4_isUnsigned_X4_isTaken
set_option maxRecDepth 20000 in
theorem ggX4_isUnsigned_X4_isEither : GoodIn wsX4_isUnsigned wsX4_isEither := goodIn_r _ [161, 1, 162, 163, 164, 6, 14, 15, 16, 17, 18, 19, 20, 21, 22, 23, 24, 25, 26, 27, 28, 2, 29, 30, 31, 32, 33, 34, 35, 36, 37, 38, 39, 40, 41, 42, 43, 44, 45, 46, 47, 48, 49, 50, 51, 52, 53, 54, 55, 56, 57, 58, 59, 60, 61, 62, 63, 64, 65, 66, 67, 68, 69, 70, 71, 72, 73, 74, 75, 76, 77, 78, 79, 80, 81, 82, 83, 84, 85, 86, 87, 88, 89, 90, 91, 92, 93, 94, 95, 96, 97, 98, 99, 100, 101, 102, 103, 104, 105, 106, 107, 108, 109, 110, 111, 112, 113, 114, 115, 116, 117, 118, 119, 120, 121, 122, 123, 124, 125, 126, 127, 128, 129, 130, 131, 132, 133, 134, 135, 136, 137, 138, 139, 140, 141, 142, 143, 144, 145, 146, 147, 148, 149, 3, 4, 5, 7, 8, 9, 153, 154, 155, 156, 157, 158, 159, 160, 165, 166, 167, 168, 169, 170, 171, 172, 173, 174, 175, 176, 177, 178, 179, 180, 0, 10, 11, 12, 13, 150, 151, 152, 181, 182, 183, 184, 185, 186, 187, 188, 189] rfl (by decide +kernel)
set_option maxRecDepth 20000 in
theorem gX4_isUnsigned_X4_isEither : GoodIn wsX4_isUnsigned (wsV RX4 38 RX4 yX4_isEither wsX4_isEither) := goodIn_app (goodIn_of _ (by decide +kernel)) ggX4_isUnsigned_X4_isEither
theorem dX4_isUnsigned_0 : decode cX4_isUnsigned 0 = .ok (.aload_n 0, 1) := by decide +kernel
theorem dX4_isUnsigned_1 : decode cX4_isUnsigned 1 = .ok (.getfield 41, 3) := by decide +kernel
theorem dX4_isUnsigned_4 : decode cX4_isUnsigned 4 = .ok (.lookupswitch 104 #[(2, 36), (3, 36), (40, 65)], 36) := by decide +kernel
theorem dX4_isUnsigned_40 : decode cX4_isUnsigned 40 = .ok (.aload_n 0, 1) := by decide +kernel
theorem dX4_isUnsigned_41 : decode cX4_isUnsigned 41 = .ok (.aload_n 0, 1) := by decide +kernel
theorem dX4_isUnsigned_42 : decode cX4_isUnsigned 42 = .ok (.getfield 83, 3) := by decide +kernel
theorem dX4_isUnsigned_45 : decode cX4_isUnsigned 45 = .ok (.iconst 1, 1) := by decide +kernel
theorem dX4_isUnsigned_46 : decode cX4_isUnsigned 46 = .ok (.invokevirtual 61, 3) := by decide +kernel
theorem dX4_isUnsigned_49 : decode cX4_isUnsigned 49 = .ok (.ifCond .eq 18, 3) := by decide +kernel
theorem dX4_isUnsigned_52 : decode cX4_isUnsigned 52 = .ok (.aload_n 0, 1) := by decide +kernel
theorem dX4_isUnsigned_53 : decode cX4_isUnsigned 53 = .ok (.aload_n 0, 1) := by decide +kernel
theorem dX4_isUnsigned_54 : decode cX4_isUnsigned 54 = .ok (.getfield 41, 3) := by decide +kernel
theorem dX4_isUnsigned_57 : decode cX4_isUnsigned 57 = .ok (.invokevirtual 34, 3) := by decide +kernel
theorem dX4_isUnsigned_60 : decode cX4_isUnsigned 60 = .ok (.ifCond .eq 7, 3) := by decide +kernel
theorem dX4_isUnsigned_63 : decode cX4_isUnsigned 63 = .ok (.iconst 1, 1) := by decide +kernel
theorem dX4_isUnsigned_64 : decode cX4_isUnsigned 64 = .ok (.goto 4, 3) := by decide +kernel
theorem dX4_isUnsigned_67 : decode cX4_isUnsigned 67 = .ok (.iconst 0, 1) := by decide +kernel
theorem dX4_isUnsigned_68 : decode cX4_isUnsigned 68 = .ok (.ireturn, 1) := by decide +kernel
theorem dX4_isUnsigned_69 : decode cX4_isUnsigned 69 = .ok (.iload_n 1, 1) := by decide +kernel
theorem dX4_isUnsigned_70 : decode cX4_isUnsigned 70 = .ok (.iconst 5, 1) := by decide +kernel
theorem dX4_isUnsigned_71 : decode cX4_isUnsigned 71 = .ok (.if_icmp .ge 35, 3) := by decide +kernel
theorem dX4_isUnsigned_74 : decode cX4_isUnsigned 74 = .ok (.aload_n 0, 1) := by decide +kernel
theorem dX4_isUnsigned_75 : decode cX4_isUnsigned 75 = .ok (.bipush 40, 2) := by decide +kernel
theorem dX4_isUnsigned_77 : decode cX4_isUnsigned 77 = .ok (.invokevirtual 34, 3) := by decide +kernel
theorem dX4_isUnsigned_80 : decode cX4_isUnsigned 80 = .ok (.ifCond .eq 26, 3) := by decide +kernel
theorem dX4_isUnsigned_83 : decode cX4_isUnsigned 83 = .ok (.aload_n 0, 1) := by decide +kernel
theorem dX4_isUnsigned_84 : decode cX4_isUnsigned 84 = .ok (.iload_n 1, 1) := by decide +kernel
theorem dX4_isUnsigned_85 : decode cX4_isUnsigned 85 = .ok (.iconst 1, 1) := by decide +kernel
theorem dX4_isUnsigned_86 : decode cX4_isUnsigned 86 = .ok (.iadd, 1) := by decide +kernel
theorem dX4_isUnsigned_87 : decode cX4_isUnsigned 87 = .ok (.invokevirtual 38, 3) := by decide +kernel
theorem dX4_isUnsigned_90 : decode cX4_isUnsigned 90 = .ok (.ifCond .eq 16, 3) := by decide +kernel
theorem dX4_isUnsigned_93 : decode cX4_isUnsigned 93 = .ok (.aload_n 0, 1) := by decide +kernel
theorem dX4_isUnsigned_94 : decode cX4_isUnsigned 94 = .ok (.bipush 41, 2) := by decide +kernel
theorem dX4_isUnsigned_96 : decode cX4_isUnsigned 96 = .ok (.invokevirtual 34, 3) := by decide +kernel
theorem dX4_isUnsigned_99 : decode cX4_isUnsigned 99 = .ok (.ifCond .eq 7, 3) := by decide +kernel
theorem dX4_isUnsigned_102 : decode cX4_isUnsigned 102 = .ok (.iconst 1, 1) := by decide +kernel
theorem dX4_isUnsigned_103 : decode cX4_isUnsigned 103 = .ok (.goto 4, 3) := by decide +kernel
theorem dX4_isUnsigned_106 : decode cX4_isUnsigned 106 = .ok (.iconst 0, 1) := by decide +kernel
theorem dX4_isUnsigned_107 : decode cX4_isUnsigned 107 = .ok (.ireturn, 1) := by decide +kernel
theorem dX4_isUnsigned_108 : decode cX4_isUnsigned 108 = .ok (.iconst 0, 1) := by decide +kernel
theorem dX4_isUnsigned_109 : decode cX4_isUnsigned 109 = .ok (.ireturn, 1) := by decide +kernel
theorem dX4_isNoted_0 : decode cX4_isNoted 0 = .ok (.iconst 0, 1) := by decide +kernel
theorem dX4_isNoted_1 : decode cX4_isNoted 1 = .ok (.istore_n 3, 1) := by decide +kernel
theorem dX4_isNoted_2 : decode cX4_isNoted 2 = .ok (.iload_n 3, 1) := by decide +kernel
theorem dX4_isNoted_3 : decode cX4_isNoted 3 = .ok (.iload_n 2, 1) := by decide +kernel
theorem dX4_isNoted_4 : decode cX4_isNoted 4 = .ok (.if_icmp .ge 43, 3) := by decide +kernel
theorem dX4_isNoted_7 : decode cX4_isNoted 7 = .ok (.aload_n 0, 1) := by decide +kernel
theorem dX4_isNoted_8 : decode cX4_isNoted 8 = .ok (.getfield 28, 3) := by decide +kernel
theorem dX4_isNoted_11 : decode cX4_isNoted 11 = .ok (.aload_n 0, 1) := by decide +kernel
theorem dX4_isNoted_12 : decode cX4_isNoted 12 = .ok (.getfield 15, 3) := by decide +kernel
theorem dX4_isNoted_15 : decode cX4_isNoted 15 = .ok (.arraylength, 1) := by decide +kernel
theorem dX4_isNoted_16 : decode cX4_isNoted 16 = .ok (.if_icmp .lt 5, 3) := by decide +kernel
theorem dX4_isNoted_19 : decode cX4_isNoted 19 = .ok (.iconst 0, 1) := by decide +kernel
theorem dX4_isNoted_20 : decode cX4_isNoted 20 = .ok (.ireturn, 1) := by decide +kernel
theorem dX4_isNoted_21 : decode cX4_isNoted 21 = .ok (.aload_n 0, 1) := by decide +kernel
theorem dX4_isNoted_22 : decode cX4_isNoted 22 = .ok (.getfield 15, 3) := by decide +kernel
theorem dX4_isNoted_25 : decode cX4_isNoted 25 = .ok (.aload_n 0, 1) := by decide +kernel
theorem dX4_isNoted_26 : decode cX4_isNoted 26 = .ok (.getfield 28, 3) := by decide +kernel
theorem dX4_isNoted_29 : decode cX4_isNoted 29 = .ok (.iload_n 1, 1) := by decide +kernel
theorem dX4_isNoted_30 : decode cX4_isNoted 30 = .ok (.iastore, 1) := by decide +kernel
theorem dX4_isNoted_31 : decode cX4_isNoted 31 = .ok (.aload_n 0, 1) := by decide +kernel
theorem dX4_isNoted_32 : decode cX4_isNoted 32 = .ok (.dup, 1) := by decide +kernel
theorem dX4_isNoted_33 : decode cX4_isNoted 33 = .ok (.getfield 28, 3) := by decide +kernel
theorem dX4_isNoted_36 : decode cX4_isNoted 36 = .ok (.iconst 1, 1) := by decide +kernel
theorem dX4_isNoted_37 : decode cX4_isNoted 37 = .ok (.iadd, 1) := by decide +kernel
theorem dX4_isNoted_38 : decode cX4_isNoted 38 = .ok (.putfield 28, 3) := by decide +kernel
theorem dX4_isNoted_41 : decode cX4_isNoted 41 = .ok (.iinc 3 1, 3) := by decide +kernel
theorem dX4_isNoted_44 : decode cX4_isNoted 44 = .ok (.goto (-42), 3) := by decide +kernel
theorem dX4_isNoted_47 : decode cX4_isNoted 47 = .ok (.iconst 1, 1) := by decide +kernel
theorem dX4_isNoted_48 : decode cX4_isNoted 48 = .ok (.ireturn, 1) := by decide +kernel
set_option maxRecDepth 20000 in
theorem ggX4_advance_X4_isLetter : GoodIn wsX4_advance wsX4_isLetter := goodIn_r _ [9] rfl (by decide +kernel)
set_option maxRecDepth 20000 in
theorem gX4_advance_X4_isLetter : GoodIn wsX4_advance (va_wsS RX4 86 yX4_isLetter wsX4_isLetter) := goodIn_app (goodIn_of _ (by decide +kernel)) ggX4_advance_X4_isLetter
set_option maxRecDepth 20000 in
theorem ggX4_advance_X4_readWord : GoodIn wsX4_advance wsX4_readWord := goodIn_r _ [13, 1, 2, 3, 4, 5, 14, 6, 7, 8, 9, 15, 16, 17, 18, 19, 20, 21, 22, 23, 24, 25, 26, 27, 28, 29, 30, 31, 32, 33, 34, 35, 36, 37, 38, 39, 40, 41, 42, 43, 44, 45, 46, 47, 48, 49, 50, 51, 52, 53, 54, 55, 56, 57, 58, 59, 60, 61, 62, 63, 64, 65, 66, 67, 136, 137, 138, 139, 140, 141, 142, 143, 144] rfl (by decide +kernel)
set_option maxRecDepth 20000 in
theorem gX4_advance_X4_readWord : GoodIn wsX4_advance (wsV RX4 89 RX4 yX4_readWord wsX4_readWord) := goodIn_app (goodIn_of _ (by decide +kernel)) ggX4_advance_X4_readWord
set_option maxRecDepth 20000 in
theorem ggX4_advance_X4_isDigit : GoodIn wsX4_advance wsX4_isDigit := goodIn_r _ [70] rfl (by decide +kernel)
set_option maxRecDepth 20000 in
theorem gX4_advance_X4_isDigit : GoodIn wsX4_advance (va_wsS RX4 92 yX4_isDigit wsX4_isDigit) := goodIn_app (goodIn_of _ (by decide +kernel)) ggX4_advance_X4_isDigit
set_option maxRecDepth 20000 in
theorem ggX4_advance_X4_readNumber : GoodIn wsX4_advance wsX4_readNumber := goodIn_r _ [74, 14, 1, 2, 3, 5, 68, 69, 8, 70, 136, 137, 138, 139, 140, 141, 142, 143, 144] rfl (by decide +kernel)
set_option maxRecDepth 20000 in
theorem gX4_advance_X4_readNumber : GoodIn wsX4_advance (wsV RX4 95 RX4 yX4_readNumber wsX4_readNumber) := goodIn_app (goodIn_of _ (by decide +kernel)) ggX4_advance_X4_readNumber
set_option maxRecDepth 20000 in
theorem ggX4_advance_J0_indexOf_0f7a4 : GoodIn wsX4_advance wsJ0_indexOf_0f7a4 := goodIn_r _ [78, 79, 80, 81, 22, 82, 24, 35, 36, 37, 38, 29, 30, 83, 20, 21, 23, 25, 26, 27, 28, 84, 85, 41, 86, 87, 88, 89, 90, 91, 92, 93, 94, 95, 96, 97, 98, 99, 100, 101, 53, 102, 103, 104, 105, 106, 107, 108, 109, 110, 111, 58, 59, 60, 112, 113, 114, 46, 115, 116, 49, 117, 118, 119, 120, 62, 63, 64, 65, 66, 67, 121, 122, 123, 124, 125, 126, 127, 128, 129, 130, 131, 132, 133, 134, 135] rfl (by decide +kernel)
set_option maxRecDepth 20000 in
theorem gX4_advance_J0_indexOf_0f7a4 : GoodIn wsX4_advance (wsV RX4 100 RJ0 yJ0_indexOf_0f7a4 wsJ0_indexOf_0f7a4) := goodIn_app (goodIn_of _ (by decide +kernel)) ggX4_advance_J0_indexOf_0f7a4
theorem dX4_advance_0 : decode cX4_advance 0 = .ok (.aload_n 0, 1) := by decide +kernel
theorem dX4_advance_1 : decode cX4_advance 1 = .ok (.getfield 25, 3) := by decide +kernel
theorem dX4_advance_4 : decode cX4_advance 4 = .ok (.aload_n 0, 1) := by decide +kernel
theorem dX4_advance_5 : decode cX4_advance 5 = .ok (.getfield 21, 3) := by decide +kernel
theorem dX4_advance_8 : decode cX4_advance 8 = .ok (.if_icmp .ge 44, 3) := by decide +kernel
theorem dX4_advance_11 : decode cX4_advance 11 = .ok (.aload_n 0, 1) := by decide +kernel
theorem dX4_advance_12 : decode cX4_advance 12 = .ok (.getfield 9, 3) := by decide +kernel
theorem dX4_advance_15 : decode cX4_advance 15 = .ok (.aload_n 0, 1) := by decide +kernel
theorem dX4_advance_16 : decode cX4_advance 16 = .ok (.getfield 25, 3) := by decide +kernel
theorem dX4_advance_19 : decode cX4_advance 19 = .ok (.iaload, 1) := by decide +kernel
theorem dX4_advance_20 : decode cX4_advance 20 = .ok (.bipush 32, 2) := by decide +kernel
theorem dX4_advance_22 : decode cX4_advance 22 = .ok (.if_icmp .eq 17, 3) := by decide +kernel
theorem dX4_advance_25 : decode cX4_advance 25 = .ok (.aload_n 0, 1) := by decide +kernel
theorem dX4_advance_26 : decode cX4_advance 26 = .ok (.getfield 9, 3) := by decide +kernel
theorem dX4_advance_29 : decode cX4_advance 29 = .ok (.aload_n 0, 1) := by decide +kernel
theorem dX4_advance_30 : decode cX4_advance 30 = .ok (.getfield 25, 3) := by decide +kernel
theorem dX4_advance_33 : decode cX4_advance 33 = .ok (.iaload, 1) := by decide +kernel
theorem dX4_advance_34 : decode cX4_advance 34 = .ok (.bipush 10, 2) := by decide +kernel
theorem dX4_advance_36 : decode cX4_advance 36 = .ok (.if_icmp .ne 16, 3) := by decide +kernel
theorem dX4_advance_39 : decode cX4_advance 39 = .ok (.aload_n 0, 1) := by decide +kernel
theorem dX4_advance_40 : decode cX4_advance 40 = .ok (.dup, 1) := by decide +kernel
theorem dX4_advance_41 : decode cX4_advance 41 = .ok (.getfield 25, 3) := by decide +kernel
theorem dX4_advance_44 : decode cX4_advance 44 = .ok (.iconst 1, 1) := by decide +kernel
theorem dX4_advance_45 : decode cX4_advance 45 = .ok (.iadd, 1) := by decide +kernel
theorem dX4_advance_46 : decode cX4_advance 46 = .ok (.putfield 25, 3) := by decide +kernel
theorem dX4_advance_49 : decode cX4_advance 49 = .ok (.goto (-49), 3) := by decide +kernel
theorem dX4_advance_52 : decode cX4_advance 52 = .ok (.aload_n 0, 1) := by decide +kernel
theorem dX4_advance_53 : decode cX4_advance 53 = .ok (.aload_n 0, 1) := by decide +kernel
theorem dX4_advance_54 : decode cX4_advance 54 = .ok (.getfield 25, 3) := by decide +kernel
theorem dX4_advance_57 : decode cX4_advance 57 = .ok (.putfield 44, 3) := by decide +kernel
theorem dX4_advance_60 : decode cX4_advance 60 = .ok (.aload_n 0, 1) := by decide +kernel
theorem dX4_advance_61 : decode cX4_advance 61 = .ok (.getfield 25, 3) := by decide +kernel
theorem dX4_advance_64 : decode cX4_advance 64 = .ok (.aload_n 0, 1) := by decide +kernel
theorem dX4_advance_65 : decode cX4_advance 65 = .ok (.getfield 21, 3) := by decide +kernel
theorem dX4_advance_68 : decode cX4_advance 68 = .ok (.if_icmp .lt 11, 3) := by decide +kernel
theorem dX4_advance_71 : decode cX4_advance 71 = .ok (.aload_n 0, 1) := by decide +kernel
theorem dX4_advance_72 : decode cX4_advance 72 = .ok (.iconst 0, 1) := by decide +kernel
theorem dX4_advance_73 : decode cX4_advance 73 = .ok (.putfield 41, 3) := by decide +kernel
theorem dX4_advance_76 : decode cX4_advance 76 = .ok (.goto 92, 3) := by decide +kernel
theorem dX4_advance_79 : decode cX4_advance 79 = .ok (.aload_n 0, 1) := by decide +kernel
theorem dX4_advance_80 : decode cX4_advance 80 = .ok (.getfield 9, 3) := by decide +kernel
theorem dX4_advance_83 : decode cX4_advance 83 = .ok (.aload_n 0, 1) := by decide +kernel
theorem dX4_advance_84 : decode cX4_advance 84 = .ok (.getfield 25, 3) := by decide +kernel
theorem dX4_advance_87 : decode cX4_advance 87 = .ok (.iaload, 1) := by decide +kernel
theorem dX4_advance_88 : decode cX4_advance 88 = .ok (.invokestatic 86, 3) := by decide +kernel
theorem dX4_advance_91 : decode cX4_advance 91 = .ok (.ifCond .eq 10, 3) := by decide +kernel
theorem dX4_advance_94 : decode cX4_advance 94 = .ok (.aload_n 0, 1) := by decide +kernel
theorem dX4_advance_95 : decode cX4_advance 95 = .ok (.invokevirtual 89, 3) := by decide +kernel
theorem dX4_advance_98 : decode cX4_advance 98 = .ok (.goto 70, 3) := by decide +kernel
theorem dX4_advance_101 : decode cX4_advance 101 = .ok (.aload_n 0, 1) := by decide +kernel
theorem dX4_advance_102 : decode cX4_advance 102 = .ok (.getfield 9, 3) := by decide +kernel
theorem dX4_advance_105 : decode cX4_advance 105 = .ok (.aload_n 0, 1) := by decide +kernel
theorem dX4_advance_106 : decode cX4_advance 106 = .ok (.getfield 25, 3) := by decide +kernel
theorem dX4_advance_109 : decode cX4_advance 109 = .ok (.iaload, 1) := by decide +kernel
theorem dX4_advance_110 : decode cX4_advance 110 = .ok (.invokestatic 92, 3) := by decide +kernel
theorem dX4_advance_113 : decode cX4_advance 113 = .ok (.ifCond .eq 10, 3) := by decide +kernel
theorem dX4_advance_116 : decode cX4_advance 116 = .ok (.aload_n 0, 1) := by decide +kernel
theorem dX4_advance_117 : decode cX4_advance 117 = .ok (.invokevirtual 95, 3) := by decide +kernel
theorem dX4_advance_120 : decode cX4_advance 120 = .ok (.goto 48, 3) := by decide +kernel
theorem dX4_advance_123 : decode cX4_advance 123 = .ok (.aload_n 0, 1) := by decide +kernel
theorem dX4_advance_124 : decode cX4_advance 124 = .ok (.ldc 98, 2) := by decide +kernel
theorem dX4_advance_126 : decode cX4_advance 126 = .ok (.aload_n 0, 1) := by decide +kernel
theorem dX4_advance_127 : decode cX4_advance 127 = .ok (.getfield 9, 3) := by decide +kernel
theorem dX4_advance_130 : decode cX4_advance 130 = .ok (.aload_n 0, 1) := by decide +kernel
theorem dX4_advance_131 : decode cX4_advance 131 = .ok (.getfield 25, 3) := by decide +kernel
theorem dX4_advance_134 : decode cX4_advance 134 = .ok (.iaload, 1) := by decide +kernel
theorem dX4_advance_135 : decode cX4_advance 135 = .ok (.i2c, 1) := by decide +kernel
theorem dX4_advance_136 : decode cX4_advance 136 = .ok (.invokevirtual 100, 3) := by decide +kernel
theorem dX4_advance_139 : decode cX4_advance 139 = .ok (.ifCond .lt 15, 3) := by decide +kernel
theorem dX4_advance_142 : decode cX4_advance 142 = .ok (.aload_n 0, 1) := by decide +kernel
theorem dX4_advance_143 : decode cX4_advance 143 = .ok (.getfield 9, 3) := by decide +kernel
theorem dX4_advance_146 : decode cX4_advance 146 = .ok (.aload_n 0, 1) := by decide +kernel
theorem dX4_advance_147 : decode cX4_advance 147 = .ok (.getfield 25, 3) := by decide +kernel
theorem dX4_advance_150 : decode cX4_advance 150 = .ok (.iaload, 1) := by decide +kernel
theorem dX4_advance_151 : decode cX4_advance 151 = .ok (.goto 4, 3) := by decide +kernel
theorem dX4_advance_154 : decode cX4_advance 154 = .ok (.iconst 1, 1) := by decide +kernel
theorem dX4_advance_155 : decode cX4_advance 155 = .ok (.putfield 41, 3) := by decide +kernel
theorem dX4_advance_158 : decode cX4_advance 158 = .ok (.aload_n 0, 1) := by decide +kernel
theorem dX4_advance_159 : decode cX4_advance 159 = .ok (.dup, 1) := by decide +kernel
theorem dX4_advance_160 : decode cX4_advance 160 = .ok (.getfield 25, 3) := by decide +kernel
theorem dX4_advance_163 : decode cX4_advance 163 = .ok (.iconst 1, 1) := by decide +kernel
theorem dX4_advance_164 : decode cX4_advance 164 = .ok (.iadd, 1) := by decide +kernel
theorem dX4_advance_165 : decode cX4_advance 165 = .ok (.putfield 25, 3) := by decide +kernel
theorem dX4_advance_168 : decode cX4_advance 168 = .ok (.return_, 1) := by decide +kernel
theorem dX4_isLetter_0 : decode cX4_isLetter 0 = .ok (.iload_n 0, 1) := by decide +kernel
theorem dX4_isLetter_1 : decode cX4_isLetter 1 = .ok (.bipush 97, 2) := by decide +kernel
theorem dX4_isLetter_3 : decode cX4_isLetter 3 = .ok (.if_icmp .lt 13, 3) := by decide +kernel
theorem dX4_isLetter_6 : decode cX4_isLetter 6 = .ok (.iload_n 0, 1) := by decide +kernel
theorem dX4_isLetter_7 : decode cX4_isLetter 7 = .ok (.bipush 122, 2) := by decide +kernel
theorem dX4_isLetter_9 : decode cX4_isLetter 9 = .ok (.if_icmp .gt 7, 3) := by decide +kernel
theorem dX4_isLetter_12 : decode cX4_isLetter 12 = .ok (.iconst 1, 1) := by decide +kernel
theorem dX4_isLetter_13 : decode cX4_isLetter 13 = .ok (.goto 4, 3) := by decide +kernel
theorem dX4_isLetter_16 : decode cX4_isLetter 16 = .ok (.iconst 0, 1) := by decide +kernel
theorem dX4_isLetter_17 : decode cX4_isLetter 17 = .ok (.ireturn, 1) := by decide +kernel
theorem dX4_isDigit_0 : decode cX4_isDigit 0 = .ok (.iload_n 0, 1) := by decide +kernel
theorem dX4_isDigit_1 : decode cX4_isDigit 1 = .ok (.bipush 48, 2) := by decide +kernel
theorem dX4_isDigit_3 : decode cX4_isDigit 3 = .ok (.if_icmp .lt 13, 3) := by decide +kernel
theorem dX4_isDigit_6 : decode cX4_isDigit 6 = .ok (.iload_n 0, 1) := by decide +kernel
theorem dX4_isDigit_7 : decode cX4_isDigit 7 = .ok (.bipush 57, 2) := by decide +kernel
theorem dX4_isDigit_9 : decode cX4_isDigit 9 = .ok (.if_icmp .gt 7, 3) := by decide +kernel
theorem dX4_isDigit_12 : decode cX4_isDigit 12 = .ok (.iconst 1, 1) := by decide +kernel
theorem dX4_isDigit_13 : decode cX4_isDigit 13 = .ok (.goto 4, 3) := by decide +kernel

theorem dX6_ownLinens_35 : decode cX6_ownLinens 35 = .ok (.goto (-31), 3) := by decide +kernel
theorem dX6_ownLinens_38 : decode cX6_ownLinens 38 = .ok (.iload_n 2, 1) := by decide +kernel
theorem dX6_ownLinens_39 : decode cX6_ownLinens 39 = .ok (.ireturn, 1) := by decide +kernel
set_option maxRecDepth 20000 in
theorem ggX6_stoopers_X6_doesStoop : GoodIn wsX6_stoopers wsX6_doesStoop := goodIn_r _ [5, 6, 7, 8, 9, 4, 10, 11, 12, 13, 14, 15, 16, 17, 18, 19, 20, 21, 22, 23, 24, 25, 26, 27, 28, 29, 30, 31, 32, 33, 34, 35, 36, 37, 38, 39, 40, 41, 42, 43, 44, 45, 46, 47, 48, 49, 50, 51, 52, 53, 54, 55, 56, 57, 58, 59, 60, 61, 62, 63, 64, 65, 66, 67, 68, 69, 70, 71, 72, 73, 74, 75, 76, 77, 78, 79, 80, 81, 82, 83, 84, 85, 86, 87, 88] rfl (by decide +kernel)
set_option maxRecDepth 20000 in
theorem gX6_stoopers_X6_doesStoop : GoodIn wsX6_stoopers (wsV RX6 195 RX6 yX6_doesStoop wsX6_doesStoop) := goodIn_app (goodIn_of _ (by decide +kernel)) ggX6_stoopers_X6_doesStoop
theorem dX6_stoopers_0 : decode cX6_stoopers 0 = .ok (.iconst 0, 1) := by decide +kernel
theorem dX6_stoopers_1 : decode cX6_stoopers 1 = .ok (.istore_n 2, 1) := by decide +kernel
theorem dX6_stoopers_2 : decode cX6_stoopers 2 = .ok (.iconst 0, 1) := by decide +kernel
theorem dX6_stoopers_3 : decode cX6_stoopers 3 = .ok (.istore_n 3, 1) := by decide +kernel
theorem dX6_stoopers_4 : decode cX6_stoopers 4 = .ok (.iload_n 3, 1) := by decide +kernel
theorem dX6_stoopers_5 : decode cX6_stoopers 5 = .ok (.bipush 6, 2) := by decide +kernel
theorem dX6_stoopers_7 : decode cX6_stoopers 7 = .ok (.if_icmp .ge 28, 3) := by decide +kernel
theorem dX6_stoopers_10 : decode cX6_stoopers 10 = .ok (.iload_n 2, 1) := by decide +kernel
theorem dX6_stoopers_11 : decode cX6_stoopers 11 = .ok (.aload_n 0, 1) := by decide +kernel
theorem dX6_stoopers_12 : decode cX6_stoopers 12 = .ok (.iload_n 3, 1) := by decide +kernel
theorem dX6_stoopers_13 : decode cX6_stoopers 13 = .ok (.iload_n 1, 1) := by decide +kernel
theorem dX6_stoopers_14 : decode cX6_stoopers 14 = .ok (.invokevirtual 195, 3) := by decide +kernel
theorem dX6_stoopers_17 : decode cX6_stoopers 17 = .ok (.ifCond .eq 9, 3) := by decide +kernel
theorem dX6_stoopers_20 : decode cX6_stoopers 20 = .ok (.iconst 1, 1) := by decide +kernel
theorem dX6_stoopers_21 : decode cX6_stoopers 21 = .ok (.iload_n 3, 1) := by decide +kernel
theorem dX6_stoopers_22 : decode cX6_stoopers 22 = .ok (.ishl, 1) := by decide +kernel
theorem dX6_stoopers_23 : decode cX6_stoopers 23 = .ok (.goto 4, 3) := by decide +kernel
theorem dX6_stoopers_26 : decode cX6_stoopers 26 = .ok (.iconst 0, 1) := by decide +kernel
theorem dX6_stoopers_27 : decode cX6_stoopers 27 = .ok (.ior, 1) := by decide +kernel
theorem dX6_stoopers_28 : decode cX6_stoopers 28 = .ok (.istore_n 2, 1) := by decide +kernel
theorem dX6_stoopers_29 : decode cX6_stoopers 29 = .ok (.iinc 3 1, 3) := by decide +kernel
theorem dX6_stoopers_32 : decode cX6_stoopers 32 = .ok (.goto (-28), 3) := by decide +kernel
theorem dX6_stoopers_35 : decode cX6_stoopers 35 = .ok (.iload_n 2, 1) := by decide +kernel
theorem dX6_stoopers_36 : decode cX6_stoopers 36 = .ok (.ireturn, 1) := by decide +kernel
set_option maxRecDepth 20000 in
theorem ggX6_told_X6_isOne : GoodIn wsX6_told wsX6_isOne := goodIn_r _ [8, 9, 10, 11, 7, 12, 75, 76, 77, 78, 79, 80, 81, 82, 83, 84, 85, 86, 87, 88, 89, 90, 91, 92, 93, 94, 95, 96, 97, 98, 99, 100, 101, 102, 103, 104, 105, 106, 107, 108, 109, 110, 111, 112] rfl (by decide +kernel)
set_option maxRecDepth 20000 in
theorem gX6_told_X6_isOne : GoodIn wsX6_told (wsV RX6 183 RX6 yX6_isOne wsX6_isOne) := goodIn_app (goodIn_of _ (by decide +kernel)) ggX6_told_X6_isOne
set_option maxRecDepth 20000 in
theorem ggX6_told_X6_dropsOf : GoodIn wsX6_told wsX6_dropsOf := goodIn_r _ [16, 1, 2, 3, 17, 18, 7, 19, 20, 21, 22, 23, 24, 25, 26, 27, 28, 29, 30, 31, 32, 33, 34, 35, 10, 11, 12, 36, 37, 38, 39, 40, 41, 42, 43, 44, 45, 46, 47, 48, 49, 50, 51, 52, 53, 75, 76, 77, 78, 79, 80, 81, 82, 83, 84, 85, 86, 87, 88, 89, 90, 91, 92, 93, 94, 95, 96, 97, 98, 99, 100, 101, 102, 103, 104, 105, 106, 107, 108, 109, 110, 111, 112] rfl (by decide +kernel)
set_option maxRecDepth 20000 in
theorem gX6_told_X6_dropsOf : GoodIn wsX6_told (wsV RX6 198 RX6 yX6_dropsOf wsX6_dropsOf) := goodIn_app (goodIn_of _ (by decide +kernel)) ggX6_told_X6_dropsOf
set_option maxRecDepth 20000 in
theorem ggX6_told_X6_waitsOf : GoodIn wsX6_told wsX6_waitsOf := goodIn_r _ [57, 2, 25, 3, 20, 21, 22, 7, 23, 24, 1, 26, 17, 18, 19, 27, 28, 29, 30, 31, 32, 33, 34, 35, 10, 11, 12, 36, 37, 38, 39, 40, 41, 42, 43, 44, 45, 46, 47, 48, 49, 50, 75, 76, 77, 78, 79, 80, 81, 82, 83, 84, 85, 86, 87, 88, 89, 90, 91, 92, 93, 94, 95, 96, 97, 98, 99, 100, 101, 102, 103, 104, 105, 106, 107, 108, 109, 110, 111, 112] rfl (by decide +kernel)
set_option maxRecDepth 20000 in
theorem gX6_told_X6_waitsOf : GoodIn wsX6_told (wsV RX6 201 RX6 yX6_waitsOf wsX6_waitsOf) := goodIn_app (goodIn_of _ (by decide +kernel)) ggX6_told_X6_waitsOf
set_option maxRecDepth 20000 in
theorem ggX6_told_X6_ownLinens : GoodIn wsX6_told wsX6_ownLinens := goodIn_r _ [61, 35, 75, 76, 77, 78, 79, 80, 81, 82, 83, 84, 85, 86, 87, 88, 89, 90, 91, 92, 93, 94, 95, 96, 97, 98, 99, 100, 101, 102, 103, 104, 105, 106, 107, 108, 109, 110, 111, 112] rfl (by decide +kernel)
set_option maxRecDepth 20000 in
theorem gX6_told_X6_ownLinens : GoodIn wsX6_told (wsV RX6 204 RX6 yX6_ownLinens wsX6_ownLinens) := goodIn_app (goodIn_of _ (by decide +kernel)) ggX6_told_X6_ownLinens
set_option maxRecDepth 20000 in
theorem ggX6_told_X6_stoopers : GoodIn wsX6_told wsX6_stoopers := goodIn_r _ [65, 66, 67, 68, 7, 69, 70, 71, 72, 73, 74, 2, 3, 20, 21, 22, 23, 24, 1, 25, 26, 17, 18, 19, 27, 28, 29, 30, 31, 32, 33, 34, 35, 10, 11, 12, 36, 37, 38, 39, 40, 41, 42, 43, 44, 45, 46, 47, 48, 49, 50, 75, 76, 77, 78, 79, 80, 81, 82, 83, 84, 85, 86, 87, 88, 89, 90, 91, 92, 93, 94, 95, 96, 97, 98, 99, 100, 101, 102, 103, 104, 105, 106, 107, 108, 109, 110, 111, 112] rfl (by decide +kernel)
set_option maxRecDepth 20000 in
theorem gX6_told_X6_stoopers : GoodIn wsX6_told (wsV RX6 207 RX6 yX6_stoopers wsX6_stoopers) := goodIn_app (goodIn_of _ (by decide +kernel)) ggX6_told_X6_stoopers
theorem dX6_told_0 : decode cX6_told 0 = .ok (.aload_n 0, 1) := by decide +kernel
theorem dX6_told_1 : decode cX6_told 1 = .ok (.iload_n 1, 1) := by decide +kernel
theorem dX6_told_2 : decode cX6_told 2 = .ok (.invokevirtual 183, 3) := by decide +kernel
theorem dX6_told_5 : decode cX6_told 5 = .ok (.ifCond .ne 6, 3) := by decide +kernel
theorem dX6_told_8 : decode cX6_told 8 = .ok (.bipush (-5), 2) := by decide +kernel
theorem dX6_told_10 : decode cX6_told 10 = .ok (.ireturn, 1) := by decide +kernel
theorem dX6_told_11 : decode cX6_told 11 = .ok (.iload_n 2, 1) := by decide +kernel
theorem dX6_told_12 : decode cX6_told 12 = .ok (.tableswitch 101 0 8 #[52, 52, 52, 63, 70, 77, 83, 89, 95], 52) := by decide +kernel
theorem dX6_told_64 : decode cX6_told 64 = .ok (.aload_n 0, 1) := by decide +kernel
theorem dX6_told_65 : decode cX6_told 65 = .ok (.getfield 16, 3) := by decide +kernel
theorem dX6_told_68 : decode cX6_told 68 = .ok (.iconst 3, 1) := by decide +kernel
theorem dX6_told_69 : decode cX6_told 69 = .ok (.iload_n 1, 1) := by decide +kernel
theorem dX6_told_70 : decode cX6_told 70 = .ok (.imul, 1) := by decide +kernel
theorem dX6_told_71 : decode cX6_told 71 = .ok (.iload_n 2, 1) := by decide +kernel
theorem dX6_told_72 : decode cX6_told 72 = .ok (.iadd, 1) := by decide +kernel
theorem dX6_told_73 : decode cX6_told 73 = .ok (.iaload, 1) := by decide +kernel
theorem dX6_told_74 : decode cX6_told 74 = .ok (.ireturn, 1) := by decide +kernel
theorem dX6_told_75 : decode cX6_told 75 = .ok (.aload_n 0, 1) := by decide +kernel
theorem dX6_told_76 : decode cX6_told 76 = .ok (.getfield 7, 3) := by decide +kernel
theorem dX6_told_79 : decode cX6_told 79 = .ok (.iload_n 1, 1) := by decide +kernel
theorem dX6_told_80 : decode cX6_told 80 = .ok (.iaload, 1) := by decide +kernel
theorem dX6_told_81 : decode cX6_told 81 = .ok (.ireturn, 1) := by decide +kernel
theorem dX6_told_82 : decode cX6_told 82 = .ok (.aload_n 0, 1) := by decide +kernel
theorem dX6_told_83 : decode cX6_told 83 = .ok (.getfield 13, 3) := by decide +kernel
theorem dX6_told_86 : decode cX6_told 86 = .ok (.iload_n 1, 1) := by decide +kernel
theorem dX6_told_87 : decode cX6_told 87 = .ok (.iaload, 1) := by decide +kernel
theorem dX6_told_88 : decode cX6_told 88 = .ok (.ireturn, 1) := by decide +kernel
theorem dX6_told_89 : decode cX6_told 89 = .ok (.aload_n 0, 1) := by decide +kernel
theorem dX6_told_90 : decode cX6_told 90 = .ok (.iload_n 1, 1) := by decide +kernel
theorem dX6_told_91 : decode cX6_told 91 = .ok (.invokevirtual 198, 3) := by decide +kernel
theorem dX6_told_94 : decode cX6_told 94 = .ok (.ireturn, 1) := by decide +kernel
theorem dX6_told_95 : decode cX6_told 95 = .ok (.aload_n 0, 1) := by decide +kernel
theorem dX6_told_96 : decode cX6_told 96 = .ok (.iload_n 1, 1) := by decide +kernel
theorem dX6_told_97 : decode cX6_told 97 = .ok (.invokevirtual 201, 3) := by decide +kernel
theorem dX6_told_100 : decode cX6_told 100 = .ok (.ireturn, 1) := by decide +kernel
theorem dX6_told_101 : decode cX6_told 101 = .ok (.aload_n 0, 1) := by decide +kernel
theorem dX6_told_102 : decode cX6_told 102 = .ok (.iload_n 1, 1) := by decide +kernel
theorem dX6_told_103 : decode cX6_told 103 = .ok (.invokevirtual 204, 3) := by decide +kernel
theorem dX6_told_106 : decode cX6_told 106 = .ok (.ireturn, 1) := by decide +kernel
theorem dX6_told_107 : decode cX6_told 107 = .ok (.aload_n 0, 1) := by decide +kernel
theorem dX6_told_108 : decode cX6_told 108 = .ok (.iload_n 1, 1) := by decide +kernel
theorem dX6_told_109 : decode cX6_told 109 = .ok (.invokevirtual 207, 3) := by decide +kernel
theorem dX6_told_112 : decode cX6_told 112 = .ok (.ireturn, 1) := by decide +kernel
theorem dX6_told_113 : decode cX6_told 113 = .ok (.bipush (-7), 2) := by decide +kernel
theorem dX6_told_115 : decode cX6_told 115 = .ok (.ireturn, 1) := by decide +kernel
set_option maxRecDepth 20000 in
theorem ggX6_regard_X6_isOne : GoodIn wsX6_regard wsX6_isOne := goodIn_r _ [5, 6, 7, 8, 4, 9, 56, 57, 58, 59, 60, 61, 62, 63, 64, 65, 66, 67, 68, 69, 70, 71, 72, 73, 74, 75, 76, 77, 78, 79, 80, 81, 82, 83, 84, 85, 86, 87, 88, 89, 90, 91, 92, 93] rfl (by decide +kernel)
set_option maxRecDepth 20000 in
theorem gX6_regard_X6_isOne : GoodIn wsX6_regard (wsV RX6 183 RX6 yX6_isOne wsX6_isOne) := goodIn_app (goodIn_of _ (by decide +kernel)) ggX6_regard_X6_isOne
set_option maxRecDepth 20000 in
theorem ggX6_regard_X6_in : GoodIn wsX6_regard wsX6_in := goodIn_r _ [9] rfl (by decide +kernel)
set_option maxRecDepth 20000 in
theorem gX6_regard_X6_in : GoodIn wsX6_regard (va_wsS RX6 81 yX6_in wsX6_in) := goodIn_app (goodIn_of _ (by decide +kernel)) ggX6_regard_X6_in
set_option maxRecDepth 20000 in
theorem ggX6_regard_X6_looksOf : GoodIn wsX6_regard wsX6_looksOf := goodIn_r _ [13, 14, 15, 16, 17, 18, 4, 19, 20, 21, 22, 23, 24, 25, 26, 27, 28, 29, 30, 31, 32, 33, 34, 35, 7, 8, 9, 36, 37, 38, 39, 40, 41, 42, 43, 44, 45, 46, 47, 48, 49, 50, 56, 57, 58, 59, 60, 61, 62, 63, 64, 65, 66, 67, 68, 69, 70, 71, 72, 73, 74, 75, 76, 77, 78, 79, 80, 81, 82, 83, 84, 85, 86, 87, 88, 89, 90, 91, 92, 93] rfl (by decide +kernel)
set_option maxRecDepth 20000 in
theorem gX6_regard_X6_looksOf : GoodIn wsX6_regard (wsV RX6 192 RX6 yX6_looksOf wsX6_looksOf) := goodIn_app (goodIn_of _ (by decide +kernel)) ggX6_regard_X6_looksOf
set_option maxRecDepth 20000 in
theorem ggX6_regard_X6_doesStoop : GoodIn wsX6_regard wsX6_doesStoop := goodIn_r _ [54, 55, 10, 11, 12, 4, 13, 14, 15, 16, 17, 18, 19, 20, 21, 22, 23, 24, 25, 26, 27, 28, 29, 30, 31, 32, 33, 34, 35, 7, 8, 9, 36, 37, 38, 39, 40, 41, 42, 43, 44, 45, 46, 47, 48, 49, 50, 56, 57, 58, 59, 60, 61, 62, 63, 64, 65, 66, 67, 68, 69, 70, 71, 72, 73, 74, 75, 76, 77, 78, 79, 80, 81, 82, 83, 84, 85, 86, 87, 88, 89, 90, 91, 92, 93] rfl (by decide +kernel)
set_option maxRecDepth 20000 in
theorem gX6_regard_X6_doesStoop : GoodIn wsX6_regard (wsV RX6 195 RX6 yX6_doesStoop wsX6_doesStoop) := goodIn_app (goodIn_of _ (by decide +kernel)) ggX6_regard_X6_doesStoop
theorem dX6_regard_0 : decode cX6_regard 0 = .ok (.aload_n 0, 1) := by decide +kernel
theorem dX6_regard_1 : decode cX6_regard 1 = .ok (.iload_n 1, 1) := by decide +kernel
theorem dX6_regard_2 : decode cX6_regard 2 = .ok (.invokevirtual 183, 3) := by decide +kernel
theorem dX6_regard_5 : decode cX6_regard 5 = .ok (.ifCond .eq 12, 3) := by decide +kernel
theorem dX6_regard_8 : decode cX6_regard 8 = .ok (.iload_n 2, 1) := by decide +kernel
theorem dX6_regard_9 : decode cX6_regard 9 = .ok (.iconst 0, 1) := by decide +kernel
theorem dX6_regard_10 : decode cX6_regard 10 = .ok (.iconst 5, 1) := by decide +kernel
theorem dX6_regard_11 : decode cX6_regard 11 = .ok (.invokestatic 81, 3) := by decide +kernel
theorem dX6_regard_14 : decode cX6_regard 14 = .ok (.ifCond .ne 6, 3) := by decide +kernel
theorem dX6_regard_17 : decode cX6_regard 17 = .ok (.bipush (-5), 2) := by decide +kernel
theorem dX6_regard_19 : decode cX6_regard 19 = .ok (.ireturn, 1) := by decide +kernel
theorem dX6_regard_20 : decode cX6_regard 20 = .ok (.iload_n 3, 1) := by decide +kernel
theorem dX6_regard_21 : decode cX6_regard 21 = .ok (.iconst 0, 1) := by decide +kernel
theorem dX6_regard_22 : decode cX6_regard 22 = .ok (.iconst 1, 1) := by decide +kernel
theorem dX6_regard_23 : decode cX6_regard 23 = .ok (.invokestatic 81, 3) := by decide +kernel
theorem dX6_regard_26 : decode cX6_regard 26 = .ok (.ifCond .ne 6, 3) := by decide +kernel
theorem dX6_regard_29 : decode cX6_regard 29 = .ok (.bipush (-7), 2) := by decide +kernel
theorem dX6_regard_31 : decode cX6_regard 31 = .ok (.ireturn, 1) := by decide +kernel
theorem dX6_regard_32 : decode cX6_regard 32 = .ok (.iload_n 3, 1) := by decide +kernel
theorem dX6_regard_33 : decode cX6_regard 33 = .ok (.ifCond .ne 12, 3) := by decide +kernel
theorem dX6_regard_36 : decode cX6_regard 36 = .ok (.aload_n 0, 1) := by decide +kernel
theorem dX6_regard_37 : decode cX6_regard 37 = .ok (.iload_n 1, 1) := by decide +kernel
theorem dX6_regard_38 : decode cX6_regard 38 = .ok (.iload_n 2, 1) := by decide +kernel
theorem dX6_regard_39 : decode cX6_regard 39 = .ok (.invokevirtual 192, 3) := by decide +kernel
theorem dX6_regard_42 : decode cX6_regard 42 = .ok (.goto 17, 3) := by decide +kernel
theorem dX6_regard_45 : decode cX6_regard 45 = .ok (.aload_n 0, 1) := by decide +kernel
theorem dX6_regard_46 : decode cX6_regard 46 = .ok (.iload_n 2, 1) := by decide +kernel
theorem dX6_regard_47 : decode cX6_regard 47 = .ok (.iload_n 1, 1) := by decide +kernel
theorem dX6_regard_48 : decode cX6_regard 48 = .ok (.invokevirtual 195, 3) := by decide +kernel
theorem dX6_regard_51 : decode cX6_regard 51 = .ok (.ifCond .eq 7, 3) := by decide +kernel
theorem dX6_regard_54 : decode cX6_regard 54 = .ok (.iconst 1, 1) := by decide +kernel
theorem dX6_regard_55 : decode cX6_regard 55 = .ok (.goto 4, 3) := by decide +kernel
theorem dX6_regard_58 : decode cX6_regard 58 = .ok (.iconst 0, 1) := by decide +kernel
theorem dX6_regard_59 : decode cX6_regard 59 = .ok (.ireturn, 1) := by decide +kernel
set_option maxRecDepth 20000 in
theorem ggX6_linen_X6_isLinen : GoodIn wsX6_linen wsX6_isLinen := goodIn_r _ [6, 1, 7, 8, 5, 9, 10, 11, 12, 13, 14, 15, 16, 17, 18, 19, 20, 21, 22, 23, 24, 25, 26, 27, 28, 29, 30, 31, 32, 33, 34, 35, 36, 37, 38, 39, 40, 41, 42, 43, 44, 45, 46, 47, 48, 49, 50] rfl (by decide +kernel)
set_option maxRecDepth 20000 in
theorem gX6_linen_X6_isLinen : GoodIn wsX6_linen (wsV RX6 89 RX6 yX6_isLinen wsX6_isLinen) := goodIn_app (goodIn_of _ (by decide +kernel)) ggX6_linen_X6_isLinen
set_option maxRecDepth 20000 in
theorem ggX6_linen_X6_in : GoodIn wsX6_linen wsX6_in := goodIn_r _ [9] rfl (by decide +kernel)
set_option maxRecDepth 20000 in
theorem gX6_linen_X6_in : GoodIn wsX6_linen (va_wsS RX6 81 yX6_in wsX6_in) := goodIn_app (goodIn_of _ (by decide +kernel)) ggX6_linen_X6_in
theorem dX6_linen_0 : decode cX6_linen 0 = .ok (.aload_n 0, 1) := by decide +kernel
theorem dX6_linen_1 : decode cX6_linen 1 = .ok (.iload_n 1, 1) := by decide +kernel
theorem dX6_linen_2 : decode cX6_linen 2 = .ok (.invokevirtual 89, 3) := by decide +kernel
theorem dX6_linen_5 : decode cX6_linen 5 = .ok (.ifCond .ne 6, 3) := by decide +kernel
theorem dX6_linen_8 : decode cX6_linen 8 = .ok (.bipush (-6), 2) := by decide +kernel
theorem dX6_linen_10 : decode cX6_linen 10 = .ok (.ireturn, 1) := by decide +kernel
theorem dX6_linen_11 : decode cX6_linen 11 = .ok (.iload_n 2, 1) := by decide +kernel
theorem dX6_linen_12 : decode cX6_linen 12 = .ok (.iconst 0, 1) := by decide +kernel
theorem dX6_linen_13 : decode cX6_linen 13 = .ok (.iconst 2, 1) := by decide +kernel
theorem dX6_linen_14 : decode cX6_linen 14 = .ok (.invokestatic 81, 3) := by decide +kernel
theorem dX6_linen_17 : decode cX6_linen 17 = .ok (.ifCond .eq 16, 3) := by decide +kernel
theorem dX6_linen_20 : decode cX6_linen 20 = .ok (.aload_n 0, 1) := by decide +kernel
theorem dX6_linen_21 : decode cX6_linen 21 = .ok (.getfield 19, 3) := by decide +kernel
theorem dX6_linen_24 : decode cX6_linen 24 = .ok (.iconst 3, 1) := by decide +kernel
theorem dX6_linen_25 : decode cX6_linen 25 = .ok (.iload_n 1, 1) := by decide +kernel
theorem dX6_linen_26 : decode cX6_linen 26 = .ok (.imul, 1) := by decide +kernel
theorem dX6_linen_27 : decode cX6_linen 27 = .ok (.iload_n 2, 1) := by decide +kernel
theorem dX6_linen_28 : decode cX6_linen 28 = .ok (.iadd, 1) := by decide +kernel
theorem dX6_linen_29 : decode cX6_linen 29 = .ok (.iaload, 1) := by decide +kernel
theorem dX6_linen_30 : decode cX6_linen 30 = .ok (.goto 5, 3) := by decide +kernel
theorem dX6_linen_33 : decode cX6_linen 33 = .ok (.bipush (-7), 2) := by decide +kernel
theorem dX6_linen_35 : decode cX6_linen 35 = .ok (.ireturn, 1) := by decide +kernel
set_option maxRecDepth 20000 in
theorem ggX6_can_X6_lying : GoodIn wsX6_can wsX6_lying := goodIn_r _ [6, 7, 8, 9, 5, 10, 11, 12, 13, 14, 15, 16, 17, 18, 19, 20, 21, 22, 23, 24, 25, 26, 27, 28, 29, 30, 31, 32, 33, 34, 35, 36, 37, 38, 39, 40, 41, 42, 43, 44, 45, 46, 47, 48, 49, 50, 51, 52, 53, 54, 55] rfl (by decide +kernel)
set_option maxRecDepth 20000 in
theorem gX6_can_X6_lying : GoodIn wsX6_can (wsV RX6 96 RX6 yX6_lying wsX6_lying) := goodIn_app (goodIn_of _ (by decide +kernel)) ggX6_can_X6_lying
theorem dX6_can_0 : decode cX6_can 0 = .ok (.aload_n 0, 1) := by decide +kernel
theorem dX6_can_1 : decode cX6_can 1 = .ok (.getfield 16, 3) := by decide +kernel
theorem dX6_can_4 : decode cX6_can 4 = .ok (.iconst 3, 1) := by decide +kernel
theorem dX6_can_5 : decode cX6_can 5 = .ok (.iload_n 1, 1) := by decide +kernel
theorem dX6_can_6 : decode cX6_can 6 = .ok (.imul, 1) := by decide +kernel
theorem dX6_can_7 : decode cX6_can 7 = .ok (.iaload, 1) := by decide +kernel
theorem dX6_can_8 : decode cX6_can 8 = .ok (.ifCond .eq 16, 3) := by decide +kernel
theorem dX6_can_11 : decode cX6_can 11 = .ok (.aload_n 0, 1) := by decide +kernel
theorem dX6_can_12 : decode cX6_can 12 = .ok (.invokevirtual 96, 3) := by decide +kernel
theorem dX6_can_15 : decode cX6_can 15 = .ok (.bipush 8, 2) := by decide +kernel
theorem dX6_can_17 : decode cX6_can 17 = .ok (.if_icmp .ge 7, 3) := by decide +kernel
theorem dX6_can_20 : decode cX6_can 20 = .ok (.iconst 1, 1) := by decide +kernel
theorem dX6_can_21 : decode cX6_can 21 = .ok (.goto 4, 3) := by decide +kernel
theorem dX6_can_24 : decode cX6_can 24 = .ok (.iconst 0, 1) := by decide +kernel
theorem dX6_can_25 : decode cX6_can 25 = .ok (.ireturn, 1) := by decide +kernel
set_option maxRecDepth 20000 in
theorem ggX6_dropOf_X6_dropsOf : GoodIn wsX6_dropOf wsX6_dropsOf := goodIn_r _ [6, 7, 8, 9, 10, 11, 5, 12, 13, 14, 15, 16, 17, 18, 19, 20, 21, 22, 23, 24, 25, 26, 27, 1, 28, 29, 30, 31, 32, 33, 34, 35, 36, 37, 38, 39, 40, 41, 42, 43, 44, 45, 46, 47, 48, 53, 54, 55, 56, 57, 58, 59, 60, 61, 62, 63, 64, 65, 66, 67, 68, 69, 70, 71, 72, 73, 74, 75, 76, 77, 78, 79, 80, 81, 82, 83, 84, 85, 86, 87, 88, 89, 90] rfl (by decide +kernel)
set_option maxRecDepth 20000 in
theorem gX6_dropOf_X6_dropsOf : GoodIn wsX6_dropOf (wsV RX6 198 RX6 yX6_dropsOf wsX6_dropsOf) := goodIn_app (goodIn_of _ (by decide +kernel)) ggX6_dropOf_X6_dropsOf
set_option maxRecDepth 20000 in
theorem ggX6_dropOf_X6_waitsOf : GoodIn wsX6_dropOf wsX6_waitsOf := goodIn_r _ [52, 8, 18, 9, 13, 14, 15, 5, 16, 17, 7, 19, 10, 11, 12, 20, 21, 22, 23, 24, 25, 26, 27, 1, 28, 29, 30, 31, 32, 33, 34, 35, 36, 37, 38, 39, 40, 41, 42, 43, 44, 45, 53, 54, 55, 56, 57, 58, 59, 60, 61, 62, 63, 64, 65, 66, 67, 68, 69, 70, 71, 72, 73, 74, 75, 76, 77, 78, 79, 80, 81, 82, 83, 84, 85, 86, 87, 88, 89, 90] rfl (by decide +kernel)
set_option maxRecDepth 20000 in
theorem gX6_dropOf_X6_waitsOf : GoodIn wsX6_dropOf (wsV RX6 201 RX6 yX6_waitsOf wsX6_waitsOf) := goodIn_app (goodIn_of _ (by decide +kernel)) ggX6_dropOf_X6_waitsOf
set_option maxRecDepth 20000 in
theorem ggX6_dropOf_X6_isLinen : GoodIn wsX6_dropOf wsX6_isLinen := goodIn_r _ [27, 1, 28, 29, 5, 30, 31, 32, 33, 53, 54, 55, 56, 57, 58, 59, 60, 61, 62, 63, 64, 65, 66, 67, 68, 69, 70, 71, 72, 73, 74, 75, 76, 77, 78, 79, 80, 81, 82, 83, 84, 85, 86, 87, 88, 89, 90] rfl (by decide +kernel)
set_option maxRecDepth 20000 in
theorem gX6_dropOf_X6_isLinen : GoodIn wsX6_dropOf (wsV RX6 89 RX6 yX6_isLinen wsX6_isLinen) := goodIn_app (goodIn_of _ (by decide +kernel)) ggX6_dropOf_X6_isLinen
theorem dX6_dropOf_0 : decode cX6_dropOf 0 = .ok (.aload_n 0, 1) := by decide +kernel
theorem dX6_dropOf_1 : decode cX6_dropOf 1 = .ok (.iload_n 1, 1) := by decide +kernel
theorem dX6_dropOf_2 : decode cX6_dropOf 2 = .ok (.invokevirtual 198, 3) := by decide +kernel
theorem dX6_dropOf_5 : decode cX6_dropOf 5 = .ok (.istore_n 2, 1) := by decide +kernel
theorem dX6_dropOf_6 : decode cX6_dropOf 6 = .ok (.aload_n 0, 1) := by decide +kernel
theorem dX6_dropOf_7 : decode cX6_dropOf 7 = .ok (.iload_n 1, 1) := by decide +kernel
theorem dX6_dropOf_8 : decode cX6_dropOf 8 = .ok (.invokevirtual 201, 3) := by decide +kernel
theorem dX6_dropOf_11 : decode cX6_dropOf 11 = .ok (.istore_n 3, 1) := by decide +kernel
theorem dX6_dropOf_12 : decode cX6_dropOf 12 = .ok (.iconst 0, 1) := by decide +kernel
theorem dX6_dropOf_13 : decode cX6_dropOf 13 = .ok (.istore 4, 2) := by decide +kernel
theorem dX6_dropOf_15 : decode cX6_dropOf 15 = .ok (.iload 4, 2) := by decide +kernel
theorem dX6_dropOf_17 : decode cX6_dropOf 17 = .ok (.bipush 7, 2) := by decide +kernel
theorem dX6_dropOf_19 : decode cX6_dropOf 19 = .ok (.if_icmp .ge 18, 3) := by decide +kernel
theorem dX6_dropOf_22 : decode cX6_dropOf 22 = .ok (.aload_n 0, 1) := by decide +kernel
theorem dX6_dropOf_23 : decode cX6_dropOf 23 = .ok (.iload 4, 2) := by decide +kernel
theorem dX6_dropOf_25 : decode cX6_dropOf 25 = .ok (.invokevirtual 89, 3) := by decide +kernel
theorem dX6_dropOf_28 : decode cX6_dropOf 28 = .ok (.ifCond .eq 9, 3) := by decide +kernel
theorem dX6_dropOf_31 : decode cX6_dropOf 31 = .ok (.iinc 4 1, 3) := by decide +kernel
theorem dX6_dropOf_34 : decode cX6_dropOf 34 = .ok (.goto (-19), 3) := by decide +kernel
theorem dX6_dropOf_37 : decode cX6_dropOf 37 = .ok (.aload_n 0, 1) := by decide +kernel
theorem dX6_dropOf_38 : decode cX6_dropOf 38 = .ok (.getfield 19, 3) := by decide +kernel
theorem dX6_dropOf_41 : decode cX6_dropOf 41 = .ok (.iconst 3, 1) := by decide +kernel
theorem dX6_dropOf_42 : decode cX6_dropOf 42 = .ok (.iload 4, 2) := by decide +kernel
theorem dX6_dropOf_44 : decode cX6_dropOf 44 = .ok (.imul, 1) := by decide +kernel
theorem dX6_dropOf_45 : decode cX6_dropOf 45 = .ok (.iload_n 1, 1) := by decide +kernel
theorem dX6_dropOf_46 : decode cX6_dropOf 46 = .ok (.iastore, 1) := by decide +kernel
theorem dX6_dropOf_47 : decode cX6_dropOf 47 = .ok (.aload_n 0, 1) := by decide +kernel
theorem dX6_dropOf_48 : decode cX6_dropOf 48 = .ok (.getfield 19, 3) := by decide +kernel
theorem dX6_dropOf_51 : decode cX6_dropOf 51 = .ok (.iconst 3, 1) := by decide +kernel
theorem dX6_dropOf_52 : decode cX6_dropOf 52 = .ok (.iload 4, 2) := by decide +kernel
theorem dX6_dropOf_54 : decode cX6_dropOf 54 = .ok (.imul, 1) := by decide +kernel
theorem dX6_dropOf_55 : decode cX6_dropOf 55 = .ok (.iconst 1, 1) := by decide +kernel
theorem dX6_dropOf_56 : decode cX6_dropOf 56 = .ok (.iadd, 1) := by decide +kernel
theorem dX6_dropOf_57 : decode cX6_dropOf 57 = .ok (.iload_n 2, 1) := by decide +kernel
theorem dX6_dropOf_58 : decode cX6_dropOf 58 = .ok (.iastore, 1) := by decide +kernel
theorem dX6_dropOf_59 : decode cX6_dropOf 59 = .ok (.aload_n 0, 1) := by decide +kernel
theorem dX6_dropOf_60 : decode cX6_dropOf 60 = .ok (.getfield 19, 3) := by decide +kernel
theorem dX6_dropOf_63 : decode cX6_dropOf 63 = .ok (.iconst 3, 1) := by decide +kernel
theorem dX6_dropOf_64 : decode cX6_dropOf 64 = .ok (.iload 4, 2) := by decide +kernel
theorem dX6_dropOf_66 : decode cX6_dropOf 66 = .ok (.imul, 1) := by decide +kernel
theorem dX6_dropOf_67 : decode cX6_dropOf 67 = .ok (.iconst 2, 1) := by decide +kernel
theorem dX6_dropOf_68 : decode cX6_dropOf 68 = .ok (.iadd, 1) := by decide +kernel
theorem dX6_dropOf_69 : decode cX6_dropOf 69 = .ok (.iload_n 3, 1) := by decide +kernel
theorem dX6_dropOf_70 : decode cX6_dropOf 70 = .ok (.iastore, 1) := by decide +kernel
theorem dX6_dropOf_71 : decode cX6_dropOf 71 = .ok (.iload 4, 2) := by decide +kernel
theorem dX6_dropOf_73 : decode cX6_dropOf 73 = .ok (.ireturn, 1) := by decide +kernel
set_option maxRecDepth 20000 in
theorem ggX6_drop_X6_isOne : GoodIn wsX6_drop wsX6_isOne := goodIn_r _ [6, 7, 8, 9, 5, 10, 62, 63, 64, 65, 66, 67, 68, 69, 70, 71, 72, 73, 74, 75, 76, 77, 78, 79, 80, 81, 82, 83, 84, 85, 86, 87, 88, 89, 90, 91, 92, 93, 94, 95, 96, 97, 98, 99] rfl (by decide +kernel)
set_option maxRecDepth 20000 in
theorem gX6_drop_X6_isOne : GoodIn wsX6_drop (wsV RX6 183 RX6 yX6_isOne wsX6_isOne) := goodIn_app (goodIn_of _ (by decide +kernel)) ggX6_drop_X6_isOne
set_option maxRecDepth 20000 in
theorem ggX6_drop_X6_lying : GoodIn wsX6_drop wsX6_lying := goodIn_r _ [14, 15, 16, 17, 5, 18, 19, 8, 9, 10, 20, 21, 22, 62, 63, 64, 65, 66, 67, 68, 69, 70, 71, 72, 73, 74, 75, 76, 77, 78, 79, 80, 81, 82, 83, 84, 85, 86, 87, 88, 89, 90, 91, 92, 93, 94, 95, 96, 97, 98, 99] rfl (by decide +kernel)
set_option maxRecDepth 20000 in
theorem gX6_drop_X6_lying : GoodIn wsX6_drop (wsV RX6 96 RX6 yX6_lying wsX6_lying) := goodIn_app (goodIn_of _ (by decide +kernel)) ggX6_drop_X6_lying
set_option maxRecDepth 20000 in
theorem ggX6_drop_X6_dropOf : GoodIn wsX6_drop wsX6_dropOf := goodIn_r _ [26, 19, 27, 28, 29, 5, 30, 1, 31, 32, 33, 34, 35, 36, 37, 38, 39, 40, 41, 42, 11, 12, 13, 14, 15, 16, 17, 18, 8, 9, 10, 20, 21, 22, 43, 44, 45, 46, 47, 48, 49, 50, 51, 52, 53, 54, 55, 56, 57, 58, 59, 60, 61, 62, 63, 64, 65, 66, 67, 68, 69, 70, 71, 72, 73, 74, 75, 76, 77, 78, 79, 80, 81, 82, 83, 84, 85, 86, 87, 88, 89, 90, 91, 92, 93, 94, 95, 96, 97, 98, 99] rfl (by decide +kernel)
set_option maxRecDepth 20000 in
theorem gX6_drop_X6_dropOf : GoodIn wsX6_drop (wsV RX6 210 RX6 yX6_dropOf wsX6_dropOf) := goodIn_app (goodIn_of _ (by decide +kernel)) ggX6_drop_X6_dropOf
theorem dX6_drop_0 : decode cX6_drop 0 = .ok (.aload_n 0, 1) := by decide +kernel
theorem dX6_drop_1 : decode cX6_drop 1 = .ok (.iload_n 1, 1) := by decide +kernel
theorem dX6_drop_2 : decode cX6_drop 2 = .ok (.invokevirtual 183, 3) := by decide +kernel
theorem dX6_drop_5 : decode cX6_drop 5 = .ok (.ifCond .ne 6, 3) := by decide +kernel
theorem dX6_drop_8 : decode cX6_drop 8 = .ok (.bipush (-5), 2) := by decide +kernel
theorem dX6_drop_10 : decode cX6_drop 10 = .ok (.ireturn, 1) := by decide +kernel
theorem dX6_drop_11 : decode cX6_drop 11 = .ok (.aload_n 0, 1) := by decide +kernel
theorem dX6_drop_12 : decode cX6_drop 12 = .ok (.getfield 16, 3) := by decide +kernel
theorem dX6_drop_15 : decode cX6_drop 15 = .ok (.iconst 3, 1) := by decide +kernel
theorem dX6_drop_16 : decode cX6_drop 16 = .ok (.iload_n 1, 1) := by decide +kernel
theorem dX6_drop_17 : decode cX6_drop 17 = .ok (.imul, 1) := by decide +kernel
theorem dX6_drop_18 : decode cX6_drop 18 = .ok (.iaload, 1) := by decide +kernel
theorem dX6_drop_19 : decode cX6_drop 19 = .ok (.ifCond .ne 5, 3) := by decide +kernel
theorem dX6_drop_22 : decode cX6_drop 22 = .ok (.iconst (-1), 1) := by decide +kernel
theorem dX6_drop_23 : decode cX6_drop 23 = .ok (.ireturn, 1) := by decide +kernel
theorem dX6_drop_24 : decode cX6_drop 24 = .ok (.aload_n 0, 1) := by decide +kernel
theorem dX6_drop_25 : decode cX6_drop 25 = .ok (.invokevirtual 96, 3) := by decide +kernel
theorem dX6_drop_28 : decode cX6_drop 28 = .ok (.bipush 8, 2) := by decide +kernel
theorem dX6_drop_30 : decode cX6_drop 30 = .ok (.if_icmp .ne 8, 3) := by decide +kernel
theorem dX6_drop_33 : decode cX6_drop 33 = .ok (.bipush (-4), 2) := by decide +kernel
theorem dX6_drop_35 : decode cX6_drop 35 = .ok (.goto 8, 3) := by decide +kernel
theorem dX6_drop_38 : decode cX6_drop 38 = .ok (.aload_n 0, 1) := by decide +kernel
theorem dX6_drop_39 : decode cX6_drop 39 = .ok (.iload_n 1, 1) := by decide +kernel
theorem dX6_drop_40 : decode cX6_drop 40 = .ok (.invokevirtual 210, 3) := by decide +kernel
theorem dX6_drop_43 : decode cX6_drop 43 = .ok (.ireturn, 1) := by decide +kernel
set_option maxRecDepth 20000 in
theorem ggX6_hourOf_X6_isLinen : GoodIn wsX6_hourOf wsX6_isLinen := goodIn_r _ [9, 2, 10, 11, 8, 12, 13, 14, 15, 51, 52, 53, 54, 55, 56, 57, 58, 59, 60, 61, 62, 63, 64, 65, 66, 67, 68, 69, 70, 71, 72, 73, 74, 75, 76, 77, 78, 79, 80, 81, 82, 83, 84, 85, 86, 87, 88] rfl (by decide +kernel)
set_option maxRecDepth 20000 in
theorem gX6_hourOf_X6_isLinen : GoodIn wsX6_hourOf (wsV RX6 89 RX6 yX6_isLinen wsX6_isLinen) := goodIn_app (goodIn_of _ (by decide +kernel)) ggX6_hourOf_X6_isLinen
set_option maxRecDepth 20000 in
theorem ggX6_hourOf_X6_within : GoodIn wsX6_hourOf wsX6_within := goodIn_r _ [15] rfl (by decide +kernel)
set_option maxRecDepth 20000 in
theorem gX6_hourOf_X6_within : GoodIn wsX6_hourOf (va_wsS RX6 85 yX6_within wsX6_within) := goodIn_app (goodIn_of _ (by decide +kernel)) ggX6_hourOf_X6_within
set_option maxRecDepth 20000 in
theorem ggX6_hourOf_X6_doesStoop : GoodIn wsX6_hourOf wsX6_doesStoop := goodIn_r _ [19, 20, 21, 22, 23, 8, 24, 25, 26, 27, 28, 29, 30, 31, 4, 1, 3, 32, 33, 34, 35, 36, 37, 38, 5, 6, 7, 9, 2, 10, 11, 12, 13, 14, 15, 39, 40, 41, 42, 43, 44, 45, 46, 47, 48, 49, 50, 51, 52, 53, 54, 55, 56, 57, 58, 59, 60, 61, 62, 63, 64, 65, 66, 67, 68, 69, 70, 71, 72, 73, 74, 75, 76, 77, 78, 79, 80, 81, 82, 83, 84, 85, 86, 87, 88] rfl (by decide +kernel)
set_option maxRecDepth 20000 in
theorem gX6_hourOf_X6_doesStoop : GoodIn wsX6_hourOf (wsV RX6 195 RX6 yX6_doesStoop wsX6_doesStoop) := goodIn_app (goodIn_of _ (by decide +kernel)) ggX6_hourOf_X6_doesStoop
theorem dX6_hourOf_0 : decode cX6_hourOf 0 = .ok (.iconst 0, 1) := by decide +kernel
theorem dX6_hourOf_1 : decode cX6_hourOf 1 = .ok (.istore_n 1, 1) := by decide +kernel
theorem dX6_hourOf_2 : decode cX6_hourOf 2 = .ok (.aload_n 0, 1) := by decide +kernel
theorem dX6_hourOf_3 : decode cX6_hourOf 3 = .ok (.getfield 93, 3) := by decide +kernel
theorem dX6_hourOf_6 : decode cX6_hourOf 6 = .ok (.bipush 6, 2) := by decide +kernel
theorem dX6_hourOf_8 : decode cX6_hourOf 8 = .ok (.irem, 1) := by decide +kernel
theorem dX6_hourOf_9 : decode cX6_hourOf 9 = .ok (.istore_n 2, 1) := by decide +kernel
theorem dX6_hourOf_10 : decode cX6_hourOf 10 = .ok (.iconst 0, 1) := by decide +kernel
theorem dX6_hourOf_11 : decode cX6_hourOf 11 = .ok (.istore_n 3, 1) := by decide +kernel
theorem dX6_hourOf_12 : decode cX6_hourOf 12 = .ok (.iload_n 3, 1) := by decide +kernel
theorem dX6_hourOf_13 : decode cX6_hourOf 13 = .ok (.bipush 8, 2) := by decide +kernel
theorem dX6_hourOf_15 : decode cX6_hourOf 15 = .ok (.if_icmp .ge 156, 3) := by decide +kernel
theorem dX6_hourOf_18 : decode cX6_hourOf 18 = .ok (.aload_n 0, 1) := by decide +kernel
theorem dX6_hourOf_19 : decode cX6_hourOf 19 = .ok (.iload_n 3, 1) := by decide +kernel
theorem dX6_hourOf_20 : decode cX6_hourOf 20 = .ok (.invokevirtual 89, 3) := by decide +kernel
theorem dX6_hourOf_23 : decode cX6_hourOf 23 = .ok (.ifCond .eq 142, 3) := by decide +kernel
theorem dX6_hourOf_26 : decode cX6_hourOf 26 = .ok (.aload_n 0, 1) := by decide +kernel
theorem dX6_hourOf_27 : decode cX6_hourOf 27 = .ok (.getfield 19, 3) := by decide +kernel
theorem dX6_hourOf_30 : decode cX6_hourOf 30 = .ok (.iconst 3, 1) := by decide +kernel
theorem dX6_hourOf_31 : decode cX6_hourOf 31 = .ok (.iload_n 3, 1) := by decide +kernel
theorem dX6_hourOf_32 : decode cX6_hourOf 32 = .ok (.imul, 1) := by decide +kernel
theorem dX6_hourOf_33 : decode cX6_hourOf 33 = .ok (.iaload, 1) := by decide +kernel
theorem dX6_hourOf_34 : decode cX6_hourOf 34 = .ok (.iconst 0, 1) := by decide +kernel
theorem dX6_hourOf_35 : decode cX6_hourOf 35 = .ok (.iconst 5, 1) := by decide +kernel
theorem dX6_hourOf_36 : decode cX6_hourOf 36 = .ok (.invokestatic 85, 3) := by decide +kernel
theorem dX6_hourOf_39 : decode cX6_hourOf 39 = .ok (.istore 4, 2) := by decide +kernel
theorem dX6_hourOf_41 : decode cX6_hourOf 41 = .ok (.aload_n 0, 1) := by decide +kernel
theorem dX6_hourOf_42 : decode cX6_hourOf 42 = .ok (.iload_n 2, 1) := by decide +kernel
theorem dX6_hourOf_43 : decode cX6_hourOf 43 = .ok (.iload 4, 2) := by decide +kernel
theorem dX6_hourOf_45 : decode cX6_hourOf 45 = .ok (.invokevirtual 195, 3) := by decide +kernel
theorem dX6_hourOf_48 : decode cX6_hourOf 48 = .ok (.ifCond .eq 51, 3) := by decide +kernel
theorem dX6_hourOf_51 : decode cX6_hourOf 51 = .ok (.iload_n 1, 1) := by decide +kernel
theorem dX6_hourOf_52 : decode cX6_hourOf 52 = .ok (.iconst 1, 1) := by decide +kernel
theorem dX6_hourOf_53 : decode cX6_hourOf 53 = .ok (.aload_n 0, 1) := by decide +kernel
theorem dX6_hourOf_54 : decode cX6_hourOf 54 = .ok (.getfield 19, 3) := by decide +kernel
theorem dX6_hourOf_57 : decode cX6_hourOf 57 = .ok (.iconst 3, 1) := by decide +kernel
theorem dX6_hourOf_58 : decode cX6_hourOf 58 = .ok (.iload_n 3, 1) := by decide +kernel
theorem dX6_hourOf_59 : decode cX6_hourOf 59 = .ok (.imul, 1) := by decide +kernel
theorem dX6_hourOf_60 : decode cX6_hourOf 60 = .ok (.iconst 1, 1) := by decide +kernel
theorem dX6_hourOf_61 : decode cX6_hourOf 61 = .ok (.iadd, 1) := by decide +kernel
theorem dX6_hourOf_62 : decode cX6_hourOf 62 = .ok (.iaload, 1) := by decide +kernel
theorem dX6_hourOf_63 : decode cX6_hourOf 63 = .ok (.ishl, 1) := by decide +kernel

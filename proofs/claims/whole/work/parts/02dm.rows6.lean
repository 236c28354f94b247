theorem dX6_film_6 : decode cX6_film 6 = .ok (.ifCond .ne 6, 3) := by decide +kernel
theorem dX6_film_9 : decode cX6_film 9 = .ok (.bipush (-2), 2) := by decide +kernel
theorem dX6_film_11 : decode cX6_film 11 = .ok (.ireturn, 1) := by decide +kernel
theorem dX6_film_12 : decode cX6_film 12 = .ok (.iload_n 2, 1) := by decide +kernel
theorem dX6_film_13 : decode cX6_film 13 = .ok (.iconst 0, 1) := by decide +kernel
theorem dX6_film_14 : decode cX6_film 14 = .ok (.bipush 20, 2) := by decide +kernel
theorem dX6_film_16 : decode cX6_film 16 = .ok (.invokestatic 81, 3) := by decide +kernel
theorem dX6_film_19 : decode cX6_film 19 = .ok (.ifCond .ne 6, 3) := by decide +kernel
theorem dX6_film_22 : decode cX6_film 22 = .ok (.bipush (-7), 2) := by decide +kernel
theorem dX6_film_24 : decode cX6_film 24 = .ok (.ireturn, 1) := by decide +kernel
theorem dX6_film_25 : decode cX6_film 25 = .ok (.aload_n 0, 1) := by decide +kernel
theorem dX6_film_26 : decode cX6_film 26 = .ok (.getfield 43, 3) := by decide +kernel
theorem dX6_film_29 : decode cX6_film 29 = .ok (.iload_n 1, 1) := by decide +kernel
theorem dX6_film_30 : decode cX6_film 30 = .ok (.iconst 0, 1) := by decide +kernel
theorem dX6_film_31 : decode cX6_film 31 = .ok (.iastore, 1) := by decide +kernel
theorem dX6_film_32 : decode cX6_film 32 = .ok (.aload_n 0, 1) := by decide +kernel
theorem dX6_film_33 : decode cX6_film 33 = .ok (.getfield 46, 3) := by decide +kernel
theorem dX6_film_36 : decode cX6_film 36 = .ok (.iload_n 1, 1) := by decide +kernel
theorem dX6_film_37 : decode cX6_film 37 = .ok (.iload_n 2, 1) := by decide +kernel
theorem dX6_film_38 : decode cX6_film 38 = .ok (.iastore, 1) := by decide +kernel
theorem dX6_film_39 : decode cX6_film 39 = .ok (.aload_n 0, 1) := by decide +kernel
theorem dX6_film_40 : decode cX6_film 40 = .ok (.invokevirtual 216, 3) := by decide +kernel
theorem dX6_film_43 : decode cX6_film 43 = .ok (.iconst 0, 1) := by decide +kernel
theorem dX6_film_44 : decode cX6_film 44 = .ok (.istore_n 3, 1) := by decide +kernel
theorem dX6_film_45 : decode cX6_film 45 = .ok (.iload_n 3, 1) := by decide +kernel
theorem dX6_film_46 : decode cX6_film 46 = .ok (.bipush 40, 2) := by decide +kernel
theorem dX6_film_48 : decode cX6_film 48 = .ok (.if_icmp .ge 49, 3) := by decide +kernel
theorem dX6_film_51 : decode cX6_film 51 = .ok (.aload_n 0, 1) := by decide +kernel
theorem dX6_film_52 : decode cX6_film 52 = .ok (.getfield 49, 3) := by decide +kernel
theorem dX6_film_55 : decode cX6_film 55 = .ok (.bipush 40, 2) := by decide +kernel
theorem dX6_film_57 : decode cX6_film 57 = .ok (.iload_n 1, 1) := by decide +kernel
theorem dX6_film_58 : decode cX6_film 58 = .ok (.imul, 1) := by decide +kernel
theorem dX6_film_59 : decode cX6_film 59 = .ok (.iload_n 3, 1) := by decide +kernel
theorem dX6_film_60 : decode cX6_film 60 = .ok (.iadd, 1) := by decide +kernel
theorem dX6_film_61 : decode cX6_film 61 = .ok (.iconst 0, 1) := by decide +kernel
theorem dX6_film_62 : decode cX6_film 62 = .ok (.iastore, 1) := by decide +kernel
theorem dX6_film_63 : decode cX6_film 63 = .ok (.iload_n 3, 1) := by decide +kernel
theorem dX6_film_64 : decode cX6_film 64 = .ok (.iload_n 2, 1) := by decide +kernel
theorem dX6_film_65 : decode cX6_film 65 = .ok (.if_icmp .ge 26, 3) := by decide +kernel
theorem dX6_film_68 : decode cX6_film 68 = .ok (.aload_n 0, 1) := by decide +kernel
theorem dX6_film_69 : decode cX6_film 69 = .ok (.invokevirtual 213, 3) := by decide +kernel
theorem dX6_film_72 : decode cX6_film 72 = .ok (.pop, 1) := by decide +kernel
theorem dX6_film_73 : decode cX6_film 73 = .ok (.aload_n 0, 1) := by decide +kernel
theorem dX6_film_74 : decode cX6_film 74 = .ok (.getfield 49, 3) := by decide +kernel
theorem dX6_film_77 : decode cX6_film 77 = .ok (.bipush 40, 2) := by decide +kernel
theorem dX6_film_79 : decode cX6_film 79 = .ok (.iload_n 1, 1) := by decide +kernel
theorem dX6_film_80 : decode cX6_film 80 = .ok (.imul, 1) := by decide +kernel
theorem dX6_film_81 : decode cX6_film 81 = .ok (.iload_n 3, 1) := by decide +kernel
theorem dX6_film_82 : decode cX6_film 82 = .ok (.iadd, 1) := by decide +kernel
theorem dX6_film_83 : decode cX6_film 83 = .ok (.aload_n 0, 1) := by decide +kernel
theorem dX6_film_84 : decode cX6_film 84 = .ok (.getfield 109, 3) := by decide +kernel
theorem dX6_film_87 : decode cX6_film 87 = .ok (.invokestatic 177, 3) := by decide +kernel
theorem dX6_film_90 : decode cX6_film 90 = .ok (.iastore, 1) := by decide +kernel
theorem dX6_film_91 : decode cX6_film 91 = .ok (.iinc 3 1, 3) := by decide +kernel
theorem dX6_film_94 : decode cX6_film 94 = .ok (.goto (-49), 3) := by decide +kernel
theorem dX6_film_97 : decode cX6_film 97 = .ok (.aload_n 0, 1) := by decide +kernel
theorem dX6_film_98 : decode cX6_film 98 = .ok (.invokevirtual 222, 3) := by decide +kernel
theorem dX6_film_101 : decode cX6_film 101 = .ok (.iload_n 2, 1) := by decide +kernel
theorem dX6_film_102 : decode cX6_film 102 = .ok (.ireturn, 1) := by decide +kernel
set_option maxRecDepth 20000 in
theorem ggX6_assizes_X6_keeps : GoodIn wsX6_assizes wsX6_keeps := goodIn_r _ [11, 12, 13, 14, 5, 15, 93, 94, 95, 96, 97, 98, 99, 100, 101, 102, 103, 104, 105, 106, 107, 108, 109, 110, 111, 112, 113, 114, 115, 116, 117, 118, 119, 120, 121, 122, 123, 124, 125, 126, 127, 128, 129, 130] rfl (by decide +kernel)
set_option maxRecDepth 20000 in
theorem gX6_assizes_X6_keeps : GoodIn wsX6_assizes (wsV RX6 216 RX6 yX6_keeps wsX6_keeps) := goodIn_app (goodIn_of _ (by decide +kernel)) ggX6_assizes_X6_keeps
set_option maxRecDepth 20000 in
theorem ggX6_assizes_X6_within : GoodIn wsX6_assizes wsX6_within := goodIn_r _ [18] rfl (by decide +kernel)
set_option maxRecDepth 20000 in
theorem gX6_assizes_X6_within : GoodIn wsX6_assizes (va_wsS RX6 85 yX6_within wsX6_within) := goodIn_app (goodIn_of _ (by decide +kernel)) ggX6_assizes_X6_within
set_option maxRecDepth 20000 in
theorem ggX6_assizes_X6_can : GoodIn wsX6_assizes wsX6_can := goodIn_r _ [22, 13, 23, 24, 25, 10, 26, 27, 28, 29, 30, 14, 31, 32, 33, 16, 17, 18, 93, 94, 95, 96, 97, 98, 99, 100, 101, 102, 103, 104, 105, 106, 107, 108, 109, 110, 111, 112, 113, 114, 115, 116, 117, 118, 119, 120, 121, 122, 123, 124, 125, 126, 127, 128, 129, 130] rfl (by decide +kernel)
set_option maxRecDepth 20000 in
theorem gX6_assizes_X6_can : GoodIn wsX6_assizes (wsV RX6 231 RX6 yX6_can wsX6_can) := goodIn_app (goodIn_of _ (by decide +kernel)) ggX6_assizes_X6_can
set_option maxRecDepth 20000 in
theorem ggX6_assizes_X6_dropOf : GoodIn wsX6_assizes wsX6_dropOf := goodIn_r _ [37, 14, 38, 39, 40, 10, 41, 13, 42, 43, 44, 45, 46, 47, 48, 49, 50, 51, 15, 5, 23, 24, 25, 26, 27, 28, 29, 30, 31, 32, 33, 16, 17, 18, 52, 53, 54, 55, 56, 57, 58, 59, 60, 61, 62, 63, 64, 65, 66, 67, 68, 69, 70, 93, 94, 95, 96, 97, 98, 99, 100, 101, 102, 103, 104, 105, 106, 107, 108, 109, 110, 111, 112, 113, 114, 115, 116, 117, 118, 119, 120, 121, 122, 123, 124, 125, 126, 127, 128, 129, 130] rfl (by decide +kernel)
set_option maxRecDepth 20000 in
theorem gX6_assizes_X6_dropOf : GoodIn wsX6_assizes (wsV RX6 210 RX6 yX6_dropOf wsX6_dropOf) := goodIn_app (goodIn_of _ (by decide +kernel)) ggX6_assizes_X6_dropOf
set_option maxRecDepth 20000 in
theorem ggX6_assizes_X6_hourOf : GoodIn wsX6_assizes wsX6_hourOf := goodIn_r _ [74, 15, 14, 5, 13, 27, 28, 29, 10, 30, 31, 32, 33, 16, 17, 18, 75, 76, 77, 78, 79, 80, 81, 82, 83, 42, 43, 47, 48, 49, 50, 51, 44, 45, 46, 23, 24, 25, 26, 52, 53, 54, 55, 56, 57, 58, 59, 60, 61, 62, 63, 93, 94, 95, 96, 97, 98, 99, 100, 101, 102, 103, 104, 105, 106, 107, 108, 109, 110, 111, 112, 113, 114, 115, 116, 117, 118, 119, 120, 121, 122, 123, 124, 125, 126, 127, 128, 129, 130] rfl (by decide +kernel)
set_option maxRecDepth 20000 in
theorem gX6_assizes_X6_hourOf : GoodIn wsX6_assizes (wsV RX6 213 RX6 yX6_hourOf wsX6_hourOf) := goodIn_app (goodIn_of _ (by decide +kernel)) ggX6_assizes_X6_hourOf
set_option maxRecDepth 20000 in
theorem ggX6_assizes_X6_lays : GoodIn wsX6_assizes wsX6_lays := goodIn_r _ [87, 13, 12, 14, 5, 15, 93, 94, 95, 96, 97, 98, 99, 100, 101, 102, 103, 104, 105, 106, 107, 108, 109, 110, 111, 112, 113, 114, 115, 116, 117, 118, 119, 120, 121, 122, 123, 124, 125, 126, 127, 128, 129, 130] rfl (by decide +kernel)
set_option maxRecDepth 20000 in
theorem gX6_assizes_X6_lays : GoodIn wsX6_assizes (wsV RX6 222 RX6 yX6_lays wsX6_lays) := goodIn_app (goodIn_of _ (by decide +kernel)) ggX6_assizes_X6_lays
set_option maxRecDepth 20000 in
theorem ggX6_assizes_X6_verdictOf : GoodIn wsX6_assizes wsX6_verdictOf := goodIn_r _ [91, 92, 93, 94, 95, 96, 97, 98, 99, 100, 101, 102, 103, 104, 105, 106, 107, 108, 109, 110, 111, 112, 113, 114, 115, 116, 117, 118, 119, 120, 121, 122, 123, 124, 125, 126, 127, 128, 129, 130] rfl (by decide +kernel)
set_option maxRecDepth 20000 in
theorem gX6_assizes_X6_verdictOf : GoodIn wsX6_assizes (wsV RX6 112 RX6 yX6_verdictOf wsX6_verdictOf) := goodIn_app (goodIn_of _ (by decide +kernel)) ggX6_assizes_X6_verdictOf
theorem dX6_assizes_0 : decode cX6_assizes 0 = .ok (.iload_n 1, 1) := by decide +kernel
theorem dX6_assizes_1 : decode cX6_assizes 1 = .ok (.i2l, 1) := by decide +kernel
theorem dX6_assizes_2 : decode cX6_assizes 2 = .ok (.lconst 1, 1) := by decide +kernel
theorem dX6_assizes_3 : decode cX6_assizes 3 = .ok (.ladd, 1) := by decide +kernel
theorem dX6_assizes_4 : decode cX6_assizes 4 = .ok (.lstore_n 2, 1) := by decide +kernel
theorem dX6_assizes_5 : decode cX6_assizes 5 = .ok (.aload_n 0, 1) := by decide +kernel
theorem dX6_assizes_6 : decode cX6_assizes 6 = .ok (.invokevirtual 216, 3) := by decide +kernel
theorem dX6_assizes_9 : decode cX6_assizes 9 = .ok (.iconst 0, 1) := by decide +kernel
theorem dX6_assizes_10 : decode cX6_assizes 10 = .ok (.istore 4, 2) := by decide +kernel
theorem dX6_assizes_12 : decode cX6_assizes 12 = .ok (.iload 4, 2) := by decide +kernel
theorem dX6_assizes_14 : decode cX6_assizes 14 = .ok (.bipush 10, 2) := by decide +kernel
theorem dX6_assizes_16 : decode cX6_assizes 16 = .ok (.if_icmp .ge 83, 3) := by decide +kernel
theorem dX6_assizes_19 : decode cX6_assizes 19 = .ok (.lload_n 2, 1) := by decide +kernel
theorem dX6_assizes_20 : decode cX6_assizes 20 = .ok (.ldc2_w 258, 3) := by decide +kernel
theorem dX6_assizes_23 : decode cX6_assizes 23 = .ok (.lmul, 1) := by decide +kernel
theorem dX6_assizes_24 : decode cX6_assizes 24 = .ok (.ldc2_w 260, 3) := by decide +kernel
theorem dX6_assizes_27 : decode cX6_assizes 27 = .ok (.lrem, 1) := by decide +kernel
theorem dX6_assizes_28 : decode cX6_assizes 28 = .ok (.lstore_n 2, 1) := by decide +kernel
theorem dX6_assizes_29 : decode cX6_assizes 29 = .ok (.lload_n 2, 1) := by decide +kernel
theorem dX6_assizes_30 : decode cX6_assizes 30 = .ok (.ldc2_w 262, 3) := by decide +kernel
theorem dX6_assizes_33 : decode cX6_assizes 33 = .ok (.lrem, 1) := by decide +kernel
theorem dX6_assizes_34 : decode cX6_assizes 34 = .ok (.l2i, 1) := by decide +kernel
theorem dX6_assizes_35 : decode cX6_assizes 35 = .ok (.istore 5, 2) := by decide +kernel
theorem dX6_assizes_37 : decode cX6_assizes 37 = .ok (.iload 5, 2) := by decide +kernel
theorem dX6_assizes_39 : decode cX6_assizes 39 = .ok (.aload_n 0, 1) := by decide +kernel
theorem dX6_assizes_40 : decode cX6_assizes 40 = .ok (.getfield 78, 3) := by decide +kernel
theorem dX6_assizes_43 : decode cX6_assizes 43 = .ok (.if_icmp .ge 7, 3) := by decide +kernel
theorem dX6_assizes_46 : decode cX6_assizes 46 = .ok (.iconst 1, 1) := by decide +kernel
theorem dX6_assizes_47 : decode cX6_assizes 47 = .ok (.goto 4, 3) := by decide +kernel
theorem dX6_assizes_50 : decode cX6_assizes 50 = .ok (.iconst 0, 1) := by decide +kernel
theorem dX6_assizes_51 : decode cX6_assizes 51 = .ok (.istore 6, 2) := by decide +kernel
theorem dX6_assizes_53 : decode cX6_assizes 53 = .ok (.iload 6, 2) := by decide +kernel
theorem dX6_assizes_55 : decode cX6_assizes 55 = .ok (.ifCond .eq 16, 3) := by decide +kernel
theorem dX6_assizes_58 : decode cX6_assizes 58 = .ok (.aload_n 0, 1) := by decide +kernel
theorem dX6_assizes_59 : decode cX6_assizes 59 = .ok (.iload 5, 2) := by decide +kernel
theorem dX6_assizes_61 : decode cX6_assizes 61 = .ok (.iconst 0, 1) := by decide +kernel
theorem dX6_assizes_62 : decode cX6_assizes 62 = .ok (.iconst 5, 1) := by decide +kernel
theorem dX6_assizes_63 : decode cX6_assizes 63 = .ok (.invokestatic 85, 3) := by decide +kernel
theorem dX6_assizes_66 : decode cX6_assizes 66 = .ok (.invokevirtual 231, 3) := by decide +kernel
theorem dX6_assizes_69 : decode cX6_assizes 69 = .ok (.istore 6, 2) := by decide +kernel
theorem dX6_assizes_71 : decode cX6_assizes 71 = .ok (.iload 6, 2) := by decide +kernel
theorem dX6_assizes_73 : decode cX6_assizes 73 = .ok (.ifCond .eq 15, 3) := by decide +kernel
theorem dX6_assizes_76 : decode cX6_assizes 76 = .ok (.aload_n 0, 1) := by decide +kernel
theorem dX6_assizes_77 : decode cX6_assizes 77 = .ok (.iload 5, 2) := by decide +kernel
theorem dX6_assizes_79 : decode cX6_assizes 79 = .ok (.iconst 0, 1) := by decide +kernel
theorem dX6_assizes_80 : decode cX6_assizes 80 = .ok (.iconst 5, 1) := by decide +kernel
theorem dX6_assizes_81 : decode cX6_assizes 81 = .ok (.invokestatic 85, 3) := by decide +kernel
theorem dX6_assizes_84 : decode cX6_assizes 84 = .ok (.invokevirtual 210, 3) := by decide +kernel
theorem dX6_assizes_87 : decode cX6_assizes 87 = .ok (.pop, 1) := by decide +kernel
theorem dX6_assizes_88 : decode cX6_assizes 88 = .ok (.aload_n 0, 1) := by decide +kernel
theorem dX6_assizes_89 : decode cX6_assizes 89 = .ok (.invokevirtual 213, 3) := by decide +kernel
theorem dX6_assizes_92 : decode cX6_assizes 92 = .ok (.pop, 1) := by decide +kernel
theorem dX6_assizes_93 : decode cX6_assizes 93 = .ok (.iinc 4 1, 3) := by decide +kernel
theorem dX6_assizes_96 : decode cX6_assizes 96 = .ok (.goto (-84), 3) := by decide +kernel
theorem dX6_assizes_99 : decode cX6_assizes 99 = .ok (.aload_n 0, 1) := by decide +kernel
theorem dX6_assizes_100 : decode cX6_assizes 100 = .ok (.aload_n 0, 1) := by decide +kernel
theorem dX6_assizes_101 : decode cX6_assizes 101 = .ok (.getfield 109, 3) := by decide +kernel
theorem dX6_assizes_104 : decode cX6_assizes 104 = .ok (.putfield 264, 3) := by decide +kernel
theorem dX6_assizes_107 : decode cX6_assizes 107 = .ok (.aload_n 0, 1) := by decide +kernel
theorem dX6_assizes_108 : decode cX6_assizes 108 = .ok (.invokevirtual 222, 3) := by decide +kernel
theorem dX6_assizes_111 : decode cX6_assizes 111 = .ok (.aload_n 0, 1) := by decide +kernel
theorem dX6_assizes_112 : decode cX6_assizes 112 = .ok (.aload_n 0, 1) := by decide +kernel
theorem dX6_assizes_113 : decode cX6_assizes 113 = .ok (.getfield 264, 3) := by decide +kernel
theorem dX6_assizes_116 : decode cX6_assizes 116 = .ok (.invokevirtual 112, 3) := by decide +kernel
theorem dX6_assizes_119 : decode cX6_assizes 119 = .ok (.ireturn, 1) := by decide +kernel
set_option maxRecDepth 20000 in
theorem ggX6_drawn_X6_in : GoodIn wsX6_drawn wsX6_in := goodIn_r _ [6] rfl (by decide +kernel)
set_option maxRecDepth 20000 in
theorem gX6_drawn_X6_in : GoodIn wsX6_drawn (va_wsS RX6 81 yX6_in wsX6_in) := goodIn_app (goodIn_of _ (by decide +kernel)) ggX6_drawn_X6_in
set_option maxRecDepth 20000 in
theorem ggX6_drawn_X6_assizes : GoodIn wsX6_drawn wsX6_assizes := goodIn_r _ [10, 11, 12, 13, 14, 15, 2, 16, 17, 18, 5, 19, 20, 21, 22, 23, 24, 25, 26, 27, 28, 29, 30, 31, 32, 33, 34, 35, 36, 37, 38, 3, 4, 6, 39, 40, 41, 42, 43, 44, 45, 46, 47, 48, 49, 50, 51, 52, 53, 54, 55, 56, 57, 58, 59, 60, 61, 62, 63, 64, 65, 66, 67, 68, 69, 70, 71, 72, 73, 74, 75, 76, 77, 78, 79, 80, 81, 82, 83, 84, 85, 86, 87, 88, 89, 90, 91, 92, 93, 94, 95, 96, 97, 98, 99, 100, 101, 102, 103, 104, 105, 106, 107, 108, 109, 110, 111, 112, 113, 114, 115, 116, 117, 118, 119, 120, 121, 122, 123, 124, 125, 126, 127, 128, 129, 130, 131, 132, 133, 134, 135] rfl (by decide +kernel)
set_option maxRecDepth 20000 in
theorem gX6_drawn_X6_assizes : GoodIn wsX6_drawn (wsV RX6 268 RX6 yX6_assizes wsX6_assizes) := goodIn_app (goodIn_of _ (by decide +kernel)) ggX6_drawn_X6_assizes
theorem dX6_drawn_0 : decode cX6_drawn 0 = .ok (.iload_n 1, 1) := by decide +kernel
theorem dX6_drawn_1 : decode cX6_drawn 1 = .ok (.iconst 0, 1) := by decide +kernel
theorem dX6_drawn_2 : decode cX6_drawn 2 = .ok (.ldc_w 267, 3) := by decide +kernel
theorem dX6_drawn_5 : decode cX6_drawn 5 = .ok (.invokestatic 81, 3) := by decide +kernel
theorem dX6_drawn_8 : decode cX6_drawn 8 = .ok (.ifCond .eq 12, 3) := by decide +kernel
theorem dX6_drawn_11 : decode cX6_drawn 11 = .ok (.iload_n 2, 1) := by decide +kernel
theorem dX6_drawn_12 : decode cX6_drawn 12 = .ok (.iconst 0, 1) := by decide +kernel
theorem dX6_drawn_13 : decode cX6_drawn 13 = .ok (.iconst 1, 1) := by decide +kernel
theorem dX6_drawn_14 : decode cX6_drawn 14 = .ok (.invokestatic 81, 3) := by decide +kernel
theorem dX6_drawn_17 : decode cX6_drawn 17 = .ok (.ifCond .ne 7, 3) := by decide +kernel
theorem dX6_drawn_20 : decode cX6_drawn 20 = .ok (.sipush (-5000), 3) := by decide +kernel
theorem dX6_drawn_23 : decode cX6_drawn 23 = .ok (.ireturn, 1) := by decide +kernel
theorem dX6_drawn_24 : decode cX6_drawn 24 = .ok (.aload_n 0, 1) := by decide +kernel
theorem dX6_drawn_25 : decode cX6_drawn 25 = .ok (.iload_n 1, 1) := by decide +kernel
theorem dX6_drawn_26 : decode cX6_drawn 26 = .ok (.invokevirtual 268, 3) := by decide +kernel
theorem dX6_drawn_29 : decode cX6_drawn 29 = .ok (.istore_n 3, 1) := by decide +kernel
theorem dX6_drawn_30 : decode cX6_drawn 30 = .ok (.iload_n 2, 1) := by decide +kernel
theorem dX6_drawn_31 : decode cX6_drawn 31 = .ok (.ifCond .ne 7, 3) := by decide +kernel
theorem dX6_drawn_34 : decode cX6_drawn 34 = .ok (.iload_n 3, 1) := by decide +kernel
theorem dX6_drawn_35 : decode cX6_drawn 35 = .ok (.goto 7, 3) := by decide +kernel
theorem dX6_drawn_38 : decode cX6_drawn 38 = .ok (.aload_n 0, 1) := by decide +kernel
theorem dX6_drawn_39 : decode cX6_drawn 39 = .ok (.getfield 264, 3) := by decide +kernel
theorem dX6_drawn_42 : decode cX6_drawn 42 = .ok (.ireturn, 1) := by decide +kernel
set_option maxRecDepth 20000 in
theorem ggX6_odds_X6_in : GoodIn wsX6_odds wsX6_in := goodIn_r _ [6] rfl (by decide +kernel)
set_option maxRecDepth 20000 in
theorem gX6_odds_X6_in : GoodIn wsX6_odds (va_wsS RX6 81 yX6_in wsX6_in) := goodIn_app (goodIn_of _ (by decide +kernel)) ggX6_odds_X6_in
set_option maxRecDepth 20000 in
theorem ggX6_odds_X6_assizes : GoodIn wsX6_odds wsX6_assizes := goodIn_r _ [10, 11, 12, 13, 14, 15, 16, 17, 18, 19, 5, 20, 21, 22, 23, 24, 25, 26, 27, 28, 29, 30, 31, 32, 33, 34, 35, 36, 37, 38, 39, 3, 4, 6, 40, 41, 42, 43, 44, 45, 46, 47, 48, 49, 50, 51, 52, 53, 54, 55, 56, 57, 58, 59, 60, 61, 62, 63, 64, 65, 66, 67, 68, 69, 70, 71, 72, 73, 74, 75, 76, 77, 78, 79, 80, 81, 82, 83, 84, 85, 86, 87, 88, 89, 90, 91, 92, 93, 94, 95, 96, 97, 98, 102, 103, 104, 105, 106, 107, 108, 109, 110, 111, 112, 113, 114, 115, 116, 117, 118, 119, 120, 121, 122, 123, 124, 125, 126, 127, 128, 129, 130, 131, 132, 133, 134, 135, 136, 137, 138, 139] rfl (by decide +kernel)
set_option maxRecDepth 20000 in
theorem gX6_odds_X6_assizes : GoodIn wsX6_odds (wsV RX6 268 RX6 yX6_assizes wsX6_assizes) := goodIn_app (goodIn_of _ (by decide +kernel)) ggX6_odds_X6_assizes
set_option maxRecDepth 20000 in
theorem ggX6_odds_X6_lowest : GoodIn wsX6_odds wsX6_lowest := goodIn_r _ [101] rfl (by decide +kernel)
set_option maxRecDepth 20000 in
theorem gX6_odds_X6_lowest : GoodIn wsX6_odds (va_wsS RX6 246 yX6_lowest wsX6_lowest) := goodIn_app (goodIn_of _ (by decide +kernel)) ggX6_odds_X6_lowest
theorem dX6_odds_0 : decode cX6_odds 0 = .ok (.iload_n 1, 1) := by decide +kernel
theorem dX6_odds_1 : decode cX6_odds 1 = .ok (.iconst 0, 1) := by decide +kernel
theorem dX6_odds_2 : decode cX6_odds 2 = .ok (.ldc_w 267, 3) := by decide +kernel
theorem dX6_odds_5 : decode cX6_odds 5 = .ok (.invokestatic 81, 3) := by decide +kernel
theorem dX6_odds_8 : decode cX6_odds 8 = .ok (.ifCond .eq 36, 3) := by decide +kernel
theorem dX6_odds_11 : decode cX6_odds 11 = .ok (.iload_n 2, 1) := by decide +kernel
theorem dX6_odds_12 : decode cX6_odds 12 = .ok (.iconst 1, 1) := by decide +kernel
theorem dX6_odds_13 : decode cX6_odds 13 = .ok (.bipush 40, 2) := by decide +kernel
theorem dX6_odds_15 : decode cX6_odds 15 = .ok (.invokestatic 81, 3) := by decide +kernel
theorem dX6_odds_18 : decode cX6_odds 18 = .ok (.ifCond .eq 26, 3) := by decide +kernel
theorem dX6_odds_21 : decode cX6_odds 21 = .ok (.iload_n 3, 1) := by decide +kernel
theorem dX6_odds_22 : decode cX6_odds 22 = .ok (.sipush (-999), 3) := by decide +kernel
theorem dX6_odds_25 : decode cX6_odds 25 = .ok (.sipush 999, 3) := by decide +kernel
theorem dX6_odds_28 : decode cX6_odds 28 = .ok (.invokestatic 81, 3) := by decide +kernel
theorem dX6_odds_31 : decode cX6_odds 31 = .ok (.ifCond .eq 13, 3) := by decide +kernel
theorem dX6_odds_34 : decode cX6_odds 34 = .ok (.iload 4, 2) := by decide +kernel
theorem dX6_odds_36 : decode cX6_odds 36 = .ok (.iconst 0, 1) := by decide +kernel
theorem dX6_odds_37 : decode cX6_odds 37 = .ok (.iconst 1, 1) := by decide +kernel
theorem dX6_odds_38 : decode cX6_odds 38 = .ok (.invokestatic 81, 3) := by decide +kernel
theorem dX6_odds_41 : decode cX6_odds 41 = .ok (.ifCond .ne 7, 3) := by decide +kernel
theorem dX6_odds_44 : decode cX6_odds 44 = .ok (.ldc2_w 250, 3) := by decide +kernel
theorem dX6_odds_47 : decode cX6_odds 47 = .ok (.lreturn, 1) := by decide +kernel
theorem dX6_odds_48 : decode cX6_odds 48 = .ok (.lconst 0, 1) := by decide +kernel
theorem dX6_odds_49 : decode cX6_odds 49 = .ok (.lstore 5, 2) := by decide +kernel
theorem dX6_odds_51 : decode cX6_odds 51 = .ok (.iconst 0, 1) := by decide +kernel
theorem dX6_odds_52 : decode cX6_odds 52 = .ok (.istore 7, 2) := by decide +kernel
theorem dX6_odds_54 : decode cX6_odds 54 = .ok (.iload 7, 2) := by decide +kernel
theorem dX6_odds_56 : decode cX6_odds 56 = .ok (.iload_n 2, 1) := by decide +kernel
theorem dX6_odds_57 : decode cX6_odds 57 = .ok (.if_icmp .ge 31, 3) := by decide +kernel
theorem dX6_odds_60 : decode cX6_odds 60 = .ok (.lload 5, 2) := by decide +kernel
theorem dX6_odds_62 : decode cX6_odds 62 = .ok (.aload_n 0, 1) := by decide +kernel
theorem dX6_odds_63 : decode cX6_odds 63 = .ok (.iload_n 1, 1) := by decide +kernel
theorem dX6_odds_64 : decode cX6_odds 64 = .ok (.iload 7, 2) := by decide +kernel
theorem dX6_odds_66 : decode cX6_odds 66 = .ok (.iadd, 1) := by decide +kernel
theorem dX6_odds_67 : decode cX6_odds 67 = .ok (.invokevirtual 268, 3) := by decide +kernel
theorem dX6_odds_70 : decode cX6_odds 70 = .ok (.iload_n 3, 1) := by decide +kernel
theorem dX6_odds_71 : decode cX6_odds 71 = .ok (.if_icmp .lt 7, 3) := by decide +kernel
theorem dX6_odds_74 : decode cX6_odds 74 = .ok (.lconst 1, 1) := by decide +kernel
theorem dX6_odds_75 : decode cX6_odds 75 = .ok (.goto 4, 3) := by decide +kernel
theorem dX6_odds_78 : decode cX6_odds 78 = .ok (.lconst 0, 1) := by decide +kernel
theorem dX6_odds_79 : decode cX6_odds 79 = .ok (.ladd, 1) := by decide +kernel
theorem dX6_odds_80 : decode cX6_odds 80 = .ok (.lstore 5, 2) := by decide +kernel
theorem dX6_odds_82 : decode cX6_odds 82 = .ok (.iinc 7 1, 3) := by decide +kernel
theorem dX6_odds_85 : decode cX6_odds 85 = .ok (.goto (-31), 3) := by decide +kernel
theorem dX6_odds_88 : decode cX6_odds 88 = .ok (.lload 5, 2) := by decide +kernel
theorem dX6_odds_90 : decode cX6_odds 90 = .ok (.iload_n 2, 1) := by decide +kernel
theorem dX6_odds_91 : decode cX6_odds 91 = .ok (.i2l, 1) := by decide +kernel
theorem dX6_odds_92 : decode cX6_odds 92 = .ok (.iload 4, 2) := by decide +kernel
theorem dX6_odds_94 : decode cX6_odds 94 = .ok (.invokestatic 246, 3) := by decide +kernel
theorem dX6_odds_97 : decode cX6_odds 97 = .ok (.lreturn, 1) := by decide +kernel
theorem dX6_image_0 : decode cX6_image 0 = .ok (.aload_n 0, 1) := by decide +kernel
theorem dX6_image_1 : decode cX6_image 1 = .ok (.iconst 1, 1) := by decide +kernel
theorem dX6_image_2 : decode cX6_image 2 = .ok (.putfield 271, 3) := by decide +kernel
theorem dX6_image_5 : decode cX6_image 5 = .ok (.iconst 0, 1) := by decide +kernel
theorem dX6_image_6 : decode cX6_image 6 = .ok (.istore_n 1, 1) := by decide +kernel
theorem dX6_image_7 : decode cX6_image 7 = .ok (.iload_n 1, 1) := by decide +kernel
theorem dX6_image_8 : decode cX6_image 8 = .ok (.bipush 18, 2) := by decide +kernel
theorem dX6_image_10 : decode cX6_image 10 = .ok (.if_icmp .ge 21, 3) := by decide +kernel
theorem dX6_image_13 : decode cX6_image 13 = .ok (.aload_n 0, 1) := by decide +kernel
theorem dX6_image_14 : decode cX6_image 14 = .ok (.getfield 37, 3) := by decide +kernel
theorem dX6_image_17 : decode cX6_image 17 = .ok (.iload_n 1, 1) := by decide +kernel
theorem dX6_image_18 : decode cX6_image 18 = .ok (.aload_n 0, 1) := by decide +kernel
theorem dX6_image_19 : decode cX6_image 19 = .ok (.getfield 16, 3) := by decide +kernel
theorem dX6_image_22 : decode cX6_image 22 = .ok (.iload_n 1, 1) := by decide +kernel
theorem dX6_image_23 : decode cX6_image 23 = .ok (.iaload, 1) := by decide +kernel
theorem dX6_image_24 : decode cX6_image 24 = .ok (.iastore, 1) := by decide +kernel
theorem dX6_image_25 : decode cX6_image 25 = .ok (.iinc 1 1, 3) := by decide +kernel
theorem dX6_image_28 : decode cX6_image 28 = .ok (.goto (-21), 3) := by decide +kernel
theorem dX6_image_31 : decode cX6_image 31 = .ok (.iconst 0, 1) := by decide +kernel
theorem dX6_image_32 : decode cX6_image 32 = .ok (.istore_n 1, 1) := by decide +kernel
theorem dX6_image_33 : decode cX6_image 33 = .ok (.iload_n 1, 1) := by decide +kernel
theorem dX6_image_34 : decode cX6_image 34 = .ok (.bipush 24, 2) := by decide +kernel
theorem dX6_image_36 : decode cX6_image 36 = .ok (.if_icmp .ge 24, 3) := by decide +kernel
theorem dX6_image_39 : decode cX6_image 39 = .ok (.aload_n 0, 1) := by decide +kernel
theorem dX6_image_40 : decode cX6_image 40 = .ok (.getfield 37, 3) := by decide +kernel
theorem dX6_image_43 : decode cX6_image 43 = .ok (.bipush 18, 2) := by decide +kernel
theorem dX6_image_45 : decode cX6_image 45 = .ok (.iload_n 1, 1) := by decide +kernel
theorem dX6_image_46 : decode cX6_image 46 = .ok (.iadd, 1) := by decide +kernel
theorem dX6_image_47 : decode cX6_image 47 = .ok (.aload_n 0, 1) := by decide +kernel
theorem dX6_image_48 : decode cX6_image 48 = .ok (.getfield 19, 3) := by decide +kernel
theorem dX6_image_51 : decode cX6_image 51 = .ok (.iload_n 1, 1) := by decide +kernel
theorem dX6_image_52 : decode cX6_image 52 = .ok (.iaload, 1) := by decide +kernel
theorem dX6_image_53 : decode cX6_image 53 = .ok (.iastore, 1) := by decide +kernel
theorem dX6_image_54 : decode cX6_image 54 = .ok (.iinc 1 1, 3) := by decide +kernel
theorem dX6_image_57 : decode cX6_image 57 = .ok (.goto (-24), 3) := by decide +kernel
theorem dX6_image_60 : decode cX6_image 60 = .ok (.iconst 0, 1) := by decide +kernel
theorem dX6_image_61 : decode cX6_image 61 = .ok (.istore_n 1, 1) := by decide +kernel
theorem dX6_image_62 : decode cX6_image 62 = .ok (.iload_n 1, 1) := by decide +kernel
theorem dX6_image_63 : decode cX6_image 63 = .ok (.bipush 10, 2) := by decide +kernel
theorem dX6_image_65 : decode cX6_image 65 = .ok (.if_icmp .ge 24, 3) := by decide +kernel
theorem dX6_image_68 : decode cX6_image 68 = .ok (.aload_n 0, 1) := by decide +kernel
theorem dX6_image_69 : decode cX6_image 69 = .ok (.getfield 37, 3) := by decide +kernel
theorem dX6_image_72 : decode cX6_image 72 = .ok (.bipush 42, 2) := by decide +kernel
theorem dX6_image_74 : decode cX6_image 74 = .ok (.iload_n 1, 1) := by decide +kernel
theorem dX6_image_75 : decode cX6_image 75 = .ok (.iadd, 1) := by decide +kernel
theorem dX6_image_76 : decode cX6_image 76 = .ok (.aload_n 0, 1) := by decide +kernel
theorem dX6_image_77 : decode cX6_image 77 = .ok (.getfield 22, 3) := by decide +kernel
theorem dX6_image_80 : decode cX6_image 80 = .ok (.iload_n 1, 1) := by decide +kernel
theorem dX6_image_81 : decode cX6_image 81 = .ok (.iaload, 1) := by decide +kernel
theorem dX6_image_82 : decode cX6_image 82 = .ok (.iastore, 1) := by decide +kernel
theorem dX6_image_83 : decode cX6_image 83 = .ok (.iinc 1 1, 3) := by decide +kernel
theorem dX6_image_86 : decode cX6_image 86 = .ok (.goto (-24), 3) := by decide +kernel
theorem dX6_image_89 : decode cX6_image 89 = .ok (.iconst 0, 1) := by decide +kernel
theorem dX6_image_90 : decode cX6_image 90 = .ok (.istore_n 1, 1) := by decide +kernel
theorem dX6_image_91 : decode cX6_image 91 = .ok (.iload_n 1, 1) := by decide +kernel
theorem dX6_image_92 : decode cX6_image 92 = .ok (.bipush 6, 2) := by decide +kernel
theorem dX6_image_94 : decode cX6_image 94 = .ok (.if_icmp .ge 24, 3) := by decide +kernel
theorem dX6_image_97 : decode cX6_image 97 = .ok (.aload_n 0, 1) := by decide +kernel
theorem dX6_image_98 : decode cX6_image 98 = .ok (.getfield 37, 3) := by decide +kernel
theorem dX6_image_101 : decode cX6_image 101 = .ok (.bipush 52, 2) := by decide +kernel
theorem dX6_image_103 : decode cX6_image 103 = .ok (.iload_n 1, 1) := by decide +kernel
theorem dX6_image_104 : decode cX6_image 104 = .ok (.iadd, 1) := by decide +kernel
theorem dX6_image_105 : decode cX6_image 105 = .ok (.aload_n 0, 1) := by decide +kernel
theorem dX6_image_106 : decode cX6_image 106 = .ok (.getfield 25, 3) := by decide +kernel
theorem dX6_image_109 : decode cX6_image 109 = .ok (.iload_n 1, 1) := by decide +kernel
theorem dX6_image_110 : decode cX6_image 110 = .ok (.iaload, 1) := by decide +kernel
theorem dX6_image_111 : decode cX6_image 111 = .ok (.iastore, 1) := by decide +kernel
theorem dX6_image_112 : decode cX6_image 112 = .ok (.iinc 1 1, 3) := by decide +kernel
theorem dX6_image_115 : decode cX6_image 115 = .ok (.goto (-24), 3) := by decide +kernel
theorem dX6_image_118 : decode cX6_image 118 = .ok (.aload_n 0, 1) := by decide +kernel
theorem dX6_image_119 : decode cX6_image 119 = .ok (.getfield 40, 3) := by decide +kernel
theorem dX6_image_122 : decode cX6_image 122 = .ok (.iconst 0, 1) := by decide +kernel
theorem dX6_image_123 : decode cX6_image 123 = .ok (.aload_n 0, 1) := by decide +kernel
theorem dX6_image_124 : decode cX6_image 124 = .ok (.getfield 78, 3) := by decide +kernel
theorem dX6_image_127 : decode cX6_image 127 = .ok (.iastore, 1) := by decide +kernel
theorem dX6_image_128 : decode cX6_image 128 = .ok (.aload_n 0, 1) := by decide +kernel
theorem dX6_image_129 : decode cX6_image 129 = .ok (.getfield 40, 3) := by decide +kernel
theorem dX6_image_132 : decode cX6_image 132 = .ok (.iconst 1, 1) := by decide +kernel
theorem dX6_image_133 : decode cX6_image 133 = .ok (.aload_n 0, 1) := by decide +kernel

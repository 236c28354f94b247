theorem dX5_faces_0 : decode cX5_faces 0 = .ok (.aload_n 0, 1) := by decide +kernel
theorem dX5_faces_1 : decode cX5_faces 1 = .ok (.iload_n 1, 1) := by decide +kernel
theorem dX5_faces_2 : decode cX5_faces 2 = .ok (.aload_n 0, 1) := by decide +kernel
theorem dX5_faces_3 : decode cX5_faces 3 = .ok (.getfield 44, 3) := by decide +kernel
theorem dX5_faces_6 : decode cX5_faces 6 = .ok (.iload_n 2, 1) := by decide +kernel
theorem dX5_faces_7 : decode cX5_faces 7 = .ok (.invokevirtual 118, 3) := by decide +kernel
theorem dX5_faces_10 : decode cX5_faces 10 = .ok (.iload_n 3, 1) := by decide +kernel
theorem dX5_faces_11 : decode cX5_faces 11 = .ok (.invokevirtual 236, 3) := by decide +kernel
theorem dX5_faces_14 : decode cX5_faces 14 = .ok (.istore 4, 2) := by decide +kernel
theorem dX5_faces_16 : decode cX5_faces 16 = .ok (.iload 4, 2) := by decide +kernel
theorem dX5_faces_18 : decode cX5_faces 18 = .ok (.ifCond .eq 8, 3) := by decide +kernel
theorem dX5_faces_21 : decode cX5_faces 21 = .ok (.iload 4, 2) := by decide +kernel
theorem dX5_faces_23 : decode cX5_faces 23 = .ok (.goto 17, 3) := by decide +kernel
theorem dX5_faces_26 : decode cX5_faces 26 = .ok (.aload_n 0, 1) := by decide +kernel
theorem dX5_faces_27 : decode cX5_faces 27 = .ok (.iload_n 1, 1) := by decide +kernel
theorem dX5_faces_28 : decode cX5_faces 28 = .ok (.aload_n 0, 1) := by decide +kernel
theorem dX5_faces_29 : decode cX5_faces 29 = .ok (.getfield 51, 3) := by decide +kernel
theorem dX5_faces_32 : decode cX5_faces 32 = .ok (.getfield 132, 3) := by decide +kernel
theorem dX5_faces_35 : decode cX5_faces 35 = .ok (.iload_n 2, 1) := by decide +kernel
theorem dX5_faces_36 : decode cX5_faces 36 = .ok (.iload_n 3, 1) := by decide +kernel
theorem dX5_faces_37 : decode cX5_faces 37 = .ok (.invokevirtual 240, 3) := by decide +kernel
theorem dX5_faces_40 : decode cX5_faces 40 = .ok (.ireturn, 1) := by decide +kernel
set_option maxRecDepth 20000 in
theorem ggX5_keens_X5_isBelow : GoodIn wsX5_keens wsX5_isBelow := goodIn_r _ [5] rfl (by decide +kernel)
set_option maxRecDepth 20000 in
theorem gX5_keens_X5_isBelow : GoodIn wsX5_keens (va_wsS RX5 100 yX5_isBelow wsX5_isBelow) := goodIn_app (goodIn_of _ (by decide +kernel)) ggX5_keens_X5_isBelow
set_option maxRecDepth 20000 in
theorem ggX5_keens_X5_refusalOfFitting : GoodIn wsX5_keens wsX5_refusalOfFitting := goodIn_r _ [9, 10, 11, 12, 4, 13, 14, 2, 3, 5, 15, 16, 17, 18, 19, 20, 112, 113, 114, 115, 116, 117, 118, 119, 120, 121, 122, 138, 139, 140] rfl (by decide +kernel)
set_option maxRecDepth 20000 in
theorem gX5_keens_X5_refusalOfFitting : GoodIn wsX5_keens (wsV RX5 236 RX5 yX5_refusalOfFitting wsX5_refusalOfFitting) := goodIn_app (goodIn_of _ (by decide +kernel)) ggX5_keens_X5_refusalOfFitting
set_option maxRecDepth 20000 in
theorem ggX5_keens_X5_fitting : GoodIn wsX5_keens wsX5_fitting := goodIn_r _ [24, 1, 25, 26, 27, 28, 29, 30, 31, 32, 33, 34, 35, 36, 37, 38, 39, 40, 41, 42, 43, 44, 45, 46, 47, 48, 49, 50, 51, 4, 52, 14, 53, 54, 55, 56, 57, 58, 59, 60, 61, 62, 63, 64, 65, 66, 67, 68, 69, 70, 71, 72, 73, 74, 75, 76, 77, 78, 79, 80, 81, 82, 83, 84, 85, 86, 87, 88, 89, 90, 91, 92, 93, 94, 95, 96, 97, 98, 99, 100, 101, 102, 103, 104, 105, 106, 107, 108, 109, 110, 111, 112, 113, 114, 115, 116, 117, 118, 119, 120, 121, 122, 123, 124, 125, 126, 127, 128, 129, 130, 131, 132, 133, 134, 135, 136, 137, 138, 139, 140, 141, 142, 143, 144] rfl (by decide +kernel)
set_option maxRecDepth 20000 in
theorem gX5_keens_X5_fitting : GoodIn wsX5_keens (wsV RX5 240 RX5 yX5_fitting wsX5_fitting) := goodIn_app (goodIn_of _ (by decide +kernel)) ggX5_keens_X5_fitting
theorem dX5_keens_0 : decode cX5_keens 0 = .ok (.aload_n 0, 1) := by decide +kernel
theorem dX5_keens_1 : decode cX5_keens 1 = .ok (.iload_n 1, 1) := by decide +kernel
theorem dX5_keens_2 : decode cX5_keens 2 = .ok (.iload_n 2, 1) := by decide +kernel
theorem dX5_keens_3 : decode cX5_keens 3 = .ok (.bipush 6, 2) := by decide +kernel
theorem dX5_keens_5 : decode cX5_keens 5 = .ok (.invokestatic 100, 3) := by decide +kernel
theorem dX5_keens_8 : decode cX5_keens 8 = .ok (.iload_n 3, 1) := by decide +kernel
theorem dX5_keens_9 : decode cX5_keens 9 = .ok (.invokevirtual 236, 3) := by decide +kernel
theorem dX5_keens_12 : decode cX5_keens 12 = .ok (.istore 4, 2) := by decide +kernel
theorem dX5_keens_14 : decode cX5_keens 14 = .ok (.iload 4, 2) := by decide +kernel
theorem dX5_keens_16 : decode cX5_keens 16 = .ok (.ifCond .eq 8, 3) := by decide +kernel
theorem dX5_keens_19 : decode cX5_keens 19 = .ok (.iload 4, 2) := by decide +kernel
theorem dX5_keens_21 : decode cX5_keens 21 = .ok (.goto 17, 3) := by decide +kernel
theorem dX5_keens_24 : decode cX5_keens 24 = .ok (.aload_n 0, 1) := by decide +kernel
theorem dX5_keens_25 : decode cX5_keens 25 = .ok (.iload_n 1, 1) := by decide +kernel
theorem dX5_keens_26 : decode cX5_keens 26 = .ok (.aload_n 0, 1) := by decide +kernel
theorem dX5_keens_27 : decode cX5_keens 27 = .ok (.getfield 51, 3) := by decide +kernel
theorem dX5_keens_30 : decode cX5_keens 30 = .ok (.getfield 87, 3) := by decide +kernel
theorem dX5_keens_33 : decode cX5_keens 33 = .ok (.iload_n 2, 1) := by decide +kernel
theorem dX5_keens_34 : decode cX5_keens 34 = .ok (.iload_n 3, 1) := by decide +kernel
theorem dX5_keens_35 : decode cX5_keens 35 = .ok (.invokevirtual 240, 3) := by decide +kernel
theorem dX5_keens_38 : decode cX5_keens 38 = .ok (.ireturn, 1) := by decide +kernel
set_option maxRecDepth 20000 in
theorem ggX5_burnt_X5_refusalOfTale : GoodIn wsX5_burnt wsX5_refusalOfTale := goodIn_r _ [7, 8, 9, 10, 6, 11, 12, 13, 14, 15, 16, 17, 108, 109, 110, 111, 112, 113, 114, 115, 116, 117, 118, 134, 135, 136] rfl (by decide +kernel)
set_option maxRecDepth 20000 in
theorem gX5_burnt_X5_refusalOfTale : GoodIn wsX5_burnt (wsV RX5 230 RX5 yX5_refusalOfTale wsX5_refusalOfTale) := goodIn_app (goodIn_of _ (by decide +kernel)) ggX5_burnt_X5_refusalOfTale
set_option maxRecDepth 20000 in
theorem ggX5_burnt_X0_lies : GoodIn wsX5_burnt wsX0_lies := goodIn_r _ [22, 23, 10, 6, 11, 119, 120, 121, 122, 123, 124, 125, 126, 127, 128, 129, 130, 131, 132, 133] rfl (by decide +kernel)
set_option maxRecDepth 20000 in
theorem gX5_burnt_X0_lies : GoodIn wsX5_burnt (wsV RX5 163 RX0 yX0_lies wsX0_lies) := goodIn_app (goodIn_of _ (by decide +kernel)) ggX5_burnt_X0_lies
set_option maxRecDepth 20000 in
theorem ggX5_burnt_X0_become : GoodIn wsX5_burnt wsX0_become := goodIn_r _ [27, 28, 29, 30, 31, 32, 33, 34, 35, 36, 37, 38, 23, 39, 40, 41, 42, 43, 44, 119, 120, 121, 122, 123, 124, 125, 126, 127, 128, 129, 130, 131, 132, 133] rfl (by decide +kernel)
set_option maxRecDepth 20000 in
theorem gX5_burnt_X0_become : GoodIn wsX5_burnt (wsV RX5 184 RX0 yX0_become wsX0_become) := goodIn_app (goodIn_of _ (by decide +kernel)) ggX5_burnt_X0_become
set_option maxRecDepth 20000 in
theorem ggX5_burnt_X5_firstOtherwise : GoodIn wsX5_burnt wsX5_firstOtherwise := goodIn_r _ [48, 8, 2, 49, 50, 51, 21, 52, 42, 23, 33, 39, 41, 53, 54, 55, 56, 44, 34, 35, 57, 58, 59, 60, 61, 62, 63, 64, 65, 66, 67, 68, 37, 36, 69, 70, 71, 72, 73, 74, 75, 76, 77, 78, 79, 80, 81, 82, 83, 84, 85, 86, 6, 87, 88, 89, 90, 91, 92, 93, 94, 95, 96, 97, 98, 99, 100, 101, 102, 103, 104, 105, 40, 38, 106, 107, 108, 109, 110, 111, 112, 113, 114, 115, 116, 117, 118, 134, 135, 136, 119, 120, 121, 122, 123, 124, 125, 126, 127, 128, 129, 130, 131, 132, 133, 137, 138, 139, 140] rfl (by decide +kernel)
set_option maxRecDepth 20000 in
theorem gX5_burnt_X5_firstOtherwise : GoodIn wsX5_burnt (wsV RX5 233 RX5 yX5_firstOtherwise wsX5_firstOtherwise) := goodIn_app (goodIn_of _ (by decide +kernel)) ggX5_burnt_X5_firstOtherwise
theorem dX5_burnt_0 : decode cX5_burnt 0 = .ok (.aload_n 0, 1) := by decide +kernel
theorem dX5_burnt_1 : decode cX5_burnt 1 = .ok (.iload_n 1, 1) := by decide +kernel
theorem dX5_burnt_2 : decode cX5_burnt 2 = .ok (.invokevirtual 230, 3) := by decide +kernel
theorem dX5_burnt_5 : decode cX5_burnt 5 = .ok (.istore_n 2, 1) := by decide +kernel
theorem dX5_burnt_6 : decode cX5_burnt 6 = .ok (.iload_n 2, 1) := by decide +kernel
theorem dX5_burnt_7 : decode cX5_burnt 7 = .ok (.ifCond .eq 5, 3) := by decide +kernel
theorem dX5_burnt_10 : decode cX5_burnt 10 = .ok (.iload_n 2, 1) := by decide +kernel
theorem dX5_burnt_11 : decode cX5_burnt 11 = .ok (.ireturn, 1) := by decide +kernel
theorem dX5_burnt_12 : decode cX5_burnt 12 = .ok (.iconst 0, 1) := by decide +kernel
theorem dX5_burnt_13 : decode cX5_burnt 13 = .ok (.istore_n 3, 1) := by decide +kernel
theorem dX5_burnt_14 : decode cX5_burnt 14 = .ok (.iconst 0, 1) := by decide +kernel
theorem dX5_burnt_15 : decode cX5_burnt 15 = .ok (.istore 4, 2) := by decide +kernel
theorem dX5_burnt_17 : decode cX5_burnt 17 = .ok (.iload 4, 2) := by decide +kernel
theorem dX5_burnt_19 : decode cX5_burnt 19 = .ok (.bipush 8, 2) := by decide +kernel
theorem dX5_burnt_21 : decode cX5_burnt 21 = .ok (.if_icmp .ge 63, 3) := by decide +kernel
theorem dX5_burnt_24 : decode cX5_burnt 24 = .ok (.aload_n 0, 1) := by decide +kernel
theorem dX5_burnt_25 : decode cX5_burnt 25 = .ok (.getfield 44, 3) := by decide +kernel
theorem dX5_burnt_28 : decode cX5_burnt 28 = .ok (.iload 4, 2) := by decide +kernel
theorem dX5_burnt_30 : decode cX5_burnt 30 = .ok (.invokevirtual 163, 3) := by decide +kernel
theorem dX5_burnt_33 : decode cX5_burnt 33 = .ok (.ifCond .eq 45, 3) := by decide +kernel
theorem dX5_burnt_36 : decode cX5_burnt 36 = .ok (.aload_n 0, 1) := by decide +kernel
theorem dX5_burnt_37 : decode cX5_burnt 37 = .ok (.getfield 51, 3) := by decide +kernel
theorem dX5_burnt_40 : decode cX5_burnt 40 = .ok (.aload_n 0, 1) := by decide +kernel
theorem dX5_burnt_41 : decode cX5_burnt 41 = .ok (.getfield 44, 3) := by decide +kernel
theorem dX5_burnt_44 : decode cX5_burnt 44 = .ok (.invokevirtual 184, 3) := by decide +kernel
theorem dX5_burnt_47 : decode cX5_burnt 47 = .ok (.aload_n 0, 1) := by decide +kernel
theorem dX5_burnt_48 : decode cX5_burnt 48 = .ok (.getfield 51, 3) := by decide +kernel
theorem dX5_burnt_51 : decode cX5_burnt 51 = .ok (.getfield 166, 3) := by decide +kernel
theorem dX5_burnt_54 : decode cX5_burnt 54 = .ok (.iload 4, 2) := by decide +kernel
theorem dX5_burnt_56 : decode cX5_burnt 56 = .ok (.iconst (-1), 1) := by decide +kernel
theorem dX5_burnt_57 : decode cX5_burnt 57 = .ok (.iastore, 1) := by decide +kernel
theorem dX5_burnt_58 : decode cX5_burnt 58 = .ok (.iload_n 3, 1) := by decide +kernel
theorem dX5_burnt_59 : decode cX5_burnt 59 = .ok (.aload_n 0, 1) := by decide +kernel
theorem dX5_burnt_60 : decode cX5_burnt 60 = .ok (.iload_n 1, 1) := by decide +kernel
theorem dX5_burnt_61 : decode cX5_burnt 61 = .ok (.invokevirtual 233, 3) := by decide +kernel
theorem dX5_burnt_64 : decode cX5_burnt 64 = .ok (.iconst (-1), 1) := by decide +kernel
theorem dX5_burnt_65 : decode cX5_burnt 65 = .ok (.if_icmp .ne 10, 3) := by decide +kernel
theorem dX5_burnt_68 : decode cX5_burnt 68 = .ok (.iconst 1, 1) := by decide +kernel
theorem dX5_burnt_69 : decode cX5_burnt 69 = .ok (.iload 4, 2) := by decide +kernel
theorem dX5_burnt_71 : decode cX5_burnt 71 = .ok (.ishl, 1) := by decide +kernel
theorem dX5_burnt_72 : decode cX5_burnt 72 = .ok (.goto 4, 3) := by decide +kernel
theorem dX5_burnt_75 : decode cX5_burnt 75 = .ok (.iconst 0, 1) := by decide +kernel
theorem dX5_burnt_76 : decode cX5_burnt 76 = .ok (.ior, 1) := by decide +kernel
theorem dX5_burnt_77 : decode cX5_burnt 77 = .ok (.istore_n 3, 1) := by decide +kernel
theorem dX5_burnt_78 : decode cX5_burnt 78 = .ok (.iinc 4 1, 3) := by decide +kernel
theorem dX5_burnt_81 : decode cX5_burnt 81 = .ok (.goto (-64), 3) := by decide +kernel
theorem dX5_burnt_84 : decode cX5_burnt 84 = .ok (.iload_n 3, 1) := by decide +kernel
theorem dX5_burnt_85 : decode cX5_burnt 85 = .ok (.ireturn, 1) := by decide +kernel
set_option maxRecDepth 20000 in
theorem ggX5_laws_X5_refusalOfTale : GoodIn wsX5_laws wsX5_refusalOfTale := goodIn_r _ [9, 10, 11, 12, 8, 13, 14, 15, 16, 17, 18, 19, 106, 107, 108, 109, 110, 111, 112, 113, 114, 115, 116, 132, 133, 134] rfl (by decide +kernel)
set_option maxRecDepth 20000 in
theorem gX5_laws_X5_refusalOfTale : GoodIn wsX5_laws (wsV RX5 230 RX5 yX5_refusalOfTale wsX5_refusalOfTale) := goodIn_app (goodIn_of _ (by decide +kernel)) ggX5_laws_X5_refusalOfTale
set_option maxRecDepth 20000 in
theorem ggX5_laws_X0_become : GoodIn wsX5_laws wsX0_become := goodIn_r _ [24, 25, 26, 27, 28, 29, 30, 31, 32, 33, 34, 35, 36, 37, 38, 39, 40, 41, 42, 117, 118, 119, 120, 121, 122, 123, 124, 125, 126, 127, 128, 129, 130, 131] rfl (by decide +kernel)
set_option maxRecDepth 20000 in
theorem gX5_laws_X0_become : GoodIn wsX5_laws (wsV RX5 184 RX0 yX0_become wsX0_become) := goodIn_app (goodIn_of _ (by decide +kernel)) ggX5_laws_X0_become
set_option maxRecDepth 20000 in
theorem ggX5_laws_X5_firstOtherwise : GoodIn wsX5_laws wsX5_firstOtherwise := goodIn_r _ [46, 10, 2, 47, 48, 49, 23, 50, 40, 36, 30, 37, 39, 51, 52, 53, 54, 42, 31, 32, 55, 56, 57, 58, 59, 60, 61, 62, 63, 64, 65, 66, 34, 33, 67, 68, 69, 70, 71, 72, 73, 74, 75, 76, 77, 78, 79, 80, 81, 82, 83, 84, 8, 85, 86, 87, 88, 89, 90, 91, 92, 93, 94, 95, 96, 97, 98, 99, 100, 101, 102, 103, 38, 35, 104, 105, 106, 107, 108, 109, 110, 111, 112, 113, 114, 115, 116, 132, 133, 134, 117, 118, 119, 120, 121, 122, 123, 124, 125, 126, 127, 128, 129, 130, 131, 135, 136, 137, 138] rfl (by decide +kernel)
set_option maxRecDepth 20000 in
theorem gX5_laws_X5_firstOtherwise : GoodIn wsX5_laws (wsV RX5 233 RX5 yX5_firstOtherwise wsX5_firstOtherwise) := goodIn_app (goodIn_of _ (by decide +kernel)) ggX5_laws_X5_firstOtherwise
theorem dX5_laws_0 : decode cX5_laws 0 = .ok (.aload_n 0, 1) := by decide +kernel
theorem dX5_laws_1 : decode cX5_laws 1 = .ok (.iload_n 1, 1) := by decide +kernel
theorem dX5_laws_2 : decode cX5_laws 2 = .ok (.invokevirtual 230, 3) := by decide +kernel
theorem dX5_laws_5 : decode cX5_laws 5 = .ok (.istore_n 2, 1) := by decide +kernel
theorem dX5_laws_6 : decode cX5_laws 6 = .ok (.iload_n 2, 1) := by decide +kernel
theorem dX5_laws_7 : decode cX5_laws 7 = .ok (.ifCond .eq 5, 3) := by decide +kernel
theorem dX5_laws_10 : decode cX5_laws 10 = .ok (.iload_n 2, 1) := by decide +kernel
theorem dX5_laws_11 : decode cX5_laws 11 = .ok (.ireturn, 1) := by decide +kernel
theorem dX5_laws_12 : decode cX5_laws 12 = .ok (.iconst 0, 1) := by decide +kernel
theorem dX5_laws_13 : decode cX5_laws 13 = .ok (.istore_n 3, 1) := by decide +kernel
theorem dX5_laws_14 : decode cX5_laws 14 = .ok (.iconst 0, 1) := by decide +kernel
theorem dX5_laws_15 : decode cX5_laws 15 = .ok (.istore 4, 2) := by decide +kernel
theorem dX5_laws_17 : decode cX5_laws 17 = .ok (.iload 4, 2) := by decide +kernel
theorem dX5_laws_19 : decode cX5_laws 19 = .ok (.aload_n 0, 1) := by decide +kernel
theorem dX5_laws_20 : decode cX5_laws 20 = .ok (.getfield 37, 3) := by decide +kernel
theorem dX5_laws_23 : decode cX5_laws 23 = .ok (.if_icmp .ge 54, 3) := by decide +kernel
theorem dX5_laws_26 : decode cX5_laws 26 = .ok (.aload_n 0, 1) := by decide +kernel
theorem dX5_laws_27 : decode cX5_laws 27 = .ok (.getfield 51, 3) := by decide +kernel
theorem dX5_laws_30 : decode cX5_laws 30 = .ok (.aload_n 0, 1) := by decide +kernel
theorem dX5_laws_31 : decode cX5_laws 31 = .ok (.getfield 44, 3) := by decide +kernel
theorem dX5_laws_34 : decode cX5_laws 34 = .ok (.invokevirtual 184, 3) := by decide +kernel
theorem dX5_laws_37 : decode cX5_laws 37 = .ok (.aload_n 0, 1) := by decide +kernel
theorem dX5_laws_38 : decode cX5_laws 38 = .ok (.getfield 51, 3) := by decide +kernel
theorem dX5_laws_41 : decode cX5_laws 41 = .ok (.aload_n 0, 1) := by decide +kernel
theorem dX5_laws_42 : decode cX5_laws 42 = .ok (.getfield 11, 3) := by decide +kernel
theorem dX5_laws_45 : decode cX5_laws 45 = .ok (.iload 4, 2) := by decide +kernel
theorem dX5_laws_47 : decode cX5_laws 47 = .ok (.aaload, 1) := by decide +kernel
theorem dX5_laws_48 : decode cX5_laws 48 = .ok (.putfield 65, 3) := by decide +kernel
theorem dX5_laws_51 : decode cX5_laws 51 = .ok (.iload_n 3, 1) := by decide +kernel
theorem dX5_laws_52 : decode cX5_laws 52 = .ok (.aload_n 0, 1) := by decide +kernel
theorem dX5_laws_53 : decode cX5_laws 53 = .ok (.iload_n 1, 1) := by decide +kernel
theorem dX5_laws_54 : decode cX5_laws 54 = .ok (.invokevirtual 233, 3) := by decide +kernel
theorem dX5_laws_57 : decode cX5_laws 57 = .ok (.iconst (-1), 1) := by decide +kernel
theorem dX5_laws_58 : decode cX5_laws 58 = .ok (.if_icmp .ne 10, 3) := by decide +kernel
theorem dX5_laws_61 : decode cX5_laws 61 = .ok (.iconst 1, 1) := by decide +kernel
theorem dX5_laws_62 : decode cX5_laws 62 = .ok (.iload 4, 2) := by decide +kernel
theorem dX5_laws_64 : decode cX5_laws 64 = .ok (.ishl, 1) := by decide +kernel
theorem dX5_laws_65 : decode cX5_laws 65 = .ok (.goto 4, 3) := by decide +kernel
theorem dX5_laws_68 : decode cX5_laws 68 = .ok (.iconst 0, 1) := by decide +kernel
theorem dX5_laws_69 : decode cX5_laws 69 = .ok (.ior, 1) := by decide +kernel
theorem dX5_laws_70 : decode cX5_laws 70 = .ok (.istore_n 3, 1) := by decide +kernel
theorem dX5_laws_71 : decode cX5_laws 71 = .ok (.iinc 4 1, 3) := by decide +kernel
theorem dX5_laws_74 : decode cX5_laws 74 = .ok (.goto (-57), 3) := by decide +kernel
theorem dX5_laws_77 : decode cX5_laws 77 = .ok (.iload_n 3, 1) := by decide +kernel
theorem dX5_laws_78 : decode cX5_laws 78 = .ok (.ireturn, 1) := by decide +kernel
set_option maxRecDepth 20000 in
theorem ggX5_film_X5_isBelow : GoodIn wsX5_film wsX5_isBelow := goodIn_r _ [7] rfl (by decide +kernel)
set_option maxRecDepth 20000 in
theorem gX5_film_X5_isBelow : GoodIn wsX5_film (va_wsS RX5 100 yX5_isBelow wsX5_isBelow) := goodIn_app (goodIn_of _ (by decide +kernel)) ggX5_film_X5_isBelow
set_option maxRecDepth 20000 in
theorem ggX5_film_X3_begin : GoodIn wsX5_film wsX3_begin := goodIn_r _ [12, 13, 14, 15, 16, 17, 18, 19, 132, 133, 134] rfl (by decide +kernel)
set_option maxRecDepth 20000 in
theorem gX5_film_X3_begin : GoodIn wsX5_film (wsV RX5 244 RX3 yX3_begin wsX3_begin) := goodIn_app (goodIn_of _ (by decide +kernel)) ggX5_film_X3_begin
set_option maxRecDepth 20000 in
theorem ggX5_film_X0_become : GoodIn wsX5_film wsX0_become := goodIn_r _ [24, 25, 26, 27, 28, 29, 30, 31, 32, 33, 34, 35, 36, 37, 38, 39, 40, 41, 42, 117, 118, 119, 120, 121, 122, 123, 124, 125, 126, 127, 128, 129, 130, 131] rfl (by decide +kernel)
set_option maxRecDepth 20000 in
theorem gX5_film_X0_become : GoodIn wsX5_film (wsV RX5 184 RX0 yX0_become wsX0_become) := goodIn_app (goodIn_of _ (by decide +kernel)) ggX5_film_X0_become
set_option maxRecDepth 20000 in
theorem ggX5_film_X0_passHours : GoodIn wsX5_film wsX0_passHours := goodIn_r _ [46, 40, 36, 30, 37, 39, 47, 48, 49, 23, 50, 42, 31, 32, 51, 52, 53, 54, 55, 56, 57, 58, 59, 60, 61, 62, 34, 33, 63, 64, 65, 66, 67, 68, 69, 70, 71, 72, 73, 74, 75, 76, 77, 78, 79, 80, 6, 81, 82, 83, 84, 85, 86, 87, 88, 89, 90, 91, 92, 93, 94, 95, 96, 97, 98, 99, 38, 35, 100, 117, 118, 119, 120, 121, 122, 123, 124, 125, 126, 127, 128, 129, 130, 131, 135, 136, 137, 138] rfl (by decide +kernel)
set_option maxRecDepth 20000 in
theorem gX5_film_X0_passHours : GoodIn wsX5_film (wsV RX5 181 RX0 yX0_passHours wsX0_passHours) := goodIn_app (goodIn_of _ (by decide +kernel)) ggX5_film_X0_passHours
set_option maxRecDepth 20000 in
theorem ggX5_film_J6_bitCount_0f7a4 : GoodIn wsX5_film wsJ6_bitCount_0f7a4 := goodIn_r _ [66, 67, 68, 69] rfl (by decide +kernel)
set_option maxRecDepth 20000 in
theorem gX5_film_J6_bitCount_0f7a4 : GoodIn wsX5_film (va_wsS RX5 196 yJ6_bitCount_0f7a4 wsJ6_bitCount_0f7a4) := goodIn_app (goodIn_of _ (by decide +kernel)) ggX5_film_J6_bitCount_0f7a4
set_option maxRecDepth 20000 in
theorem ggX5_film_X3_become : GoodIn wsX5_film wsX3_become := goodIn_r _ [105, 15, 13, 132, 133, 134] rfl (by decide +kernel)
set_option maxRecDepth 20000 in
theorem gX5_film_X3_become : GoodIn wsX5_film (wsV RX5 248 RX3 yX3_become wsX3_become) := goodIn_app (goodIn_of _ (by decide +kernel)) ggX5_film_X3_become
theorem dX5_film_0 : decode cX5_film 0 = .ok (.iload_n 1, 1) := by decide +kernel
theorem dX5_film_1 : decode cX5_film 1 = .ok (.iconst 4, 1) := by decide +kernel
theorem dX5_film_2 : decode cX5_film 2 = .ok (.invokestatic 100, 3) := by decide +kernel
theorem dX5_film_5 : decode cX5_film 5 = .ok (.ifCond .ne 6, 3) := by decide +kernel
theorem dX5_film_8 : decode cX5_film 8 = .ok (.bipush (-2), 2) := by decide +kernel
theorem dX5_film_10 : decode cX5_film 10 = .ok (.ireturn, 1) := by decide +kernel
theorem dX5_film_11 : decode cX5_film 11 = .ok (.iload_n 2, 1) := by decide +kernel
theorem dX5_film_12 : decode cX5_film 12 = .ok (.bipush 21, 2) := by decide +kernel
theorem dX5_film_14 : decode cX5_film 14 = .ok (.invokestatic 100, 3) := by decide +kernel
theorem dX5_film_17 : decode cX5_film 17 = .ok (.ifCond .ne 6, 3) := by decide +kernel
theorem dX5_film_20 : decode cX5_film 20 = .ok (.bipush (-7), 2) := by decide +kernel
theorem dX5_film_22 : decode cX5_film 22 = .ok (.ireturn, 1) := by decide +kernel
theorem dX5_film_23 : decode cX5_film 23 = .ok (.aload_n 0, 1) := by decide +kernel
theorem dX5_film_24 : decode cX5_film 24 = .ok (.getfield 24, 3) := by decide +kernel
theorem dX5_film_27 : decode cX5_film 27 = .ok (.iload_n 1, 1) := by decide +kernel
theorem dX5_film_28 : decode cX5_film 28 = .ok (.aaload, 1) := by decide +kernel
theorem dX5_film_29 : decode cX5_film 29 = .ok (.astore_n 3, 1) := by decide +kernel
theorem dX5_film_30 : decode cX5_film 30 = .ok (.aload_n 3, 1) := by decide +kernel
theorem dX5_film_31 : decode cX5_film 31 = .ok (.iconst 0, 1) := by decide +kernel
theorem dX5_film_32 : decode cX5_film 32 = .ok (.iload_n 2, 1) := by decide +kernel
theorem dX5_film_33 : decode cX5_film 33 = .ok (.invokevirtual 244, 3) := by decide +kernel
theorem dX5_film_36 : decode cX5_film 36 = .ok (.aload_n 0, 1) := by decide +kernel
theorem dX5_film_37 : decode cX5_film 37 = .ok (.getfield 51, 3) := by decide +kernel
theorem dX5_film_40 : decode cX5_film 40 = .ok (.aload_n 0, 1) := by decide +kernel
theorem dX5_film_41 : decode cX5_film 41 = .ok (.getfield 44, 3) := by decide +kernel
theorem dX5_film_44 : decode cX5_film 44 = .ok (.invokevirtual 184, 3) := by decide +kernel
theorem dX5_film_47 : decode cX5_film 47 = .ok (.iconst 0, 1) := by decide +kernel
theorem dX5_film_48 : decode cX5_film 48 = .ok (.istore 4, 2) := by decide +kernel
theorem dX5_film_50 : decode cX5_film 50 = .ok (.iload 4, 2) := by decide +kernel
theorem dX5_film_52 : decode cX5_film 52 = .ok (.iload_n 2, 1) := by decide +kernel
theorem dX5_film_53 : decode cX5_film 53 = .ok (.if_icmp .ge 34, 3) := by decide +kernel
theorem dX5_film_56 : decode cX5_film 56 = .ok (.aload_n 0, 1) := by decide +kernel
theorem dX5_film_57 : decode cX5_film 57 = .ok (.getfield 51, 3) := by decide +kernel
theorem dX5_film_60 : decode cX5_film 60 = .ok (.iconst 1, 1) := by decide +kernel
theorem dX5_film_61 : decode cX5_film 61 = .ok (.invokevirtual 181, 3) := by decide +kernel
theorem dX5_film_64 : decode cX5_film 64 = .ok (.pop, 1) := by decide +kernel
theorem dX5_film_65 : decode cX5_film 65 = .ok (.aload_n 3, 1) := by decide +kernel
theorem dX5_film_66 : decode cX5_film 66 = .ok (.iload 4, 2) := by decide +kernel
theorem dX5_film_68 : decode cX5_film 68 = .ok (.aload_n 0, 1) := by decide +kernel
theorem dX5_film_69 : decode cX5_film 69 = .ok (.getfield 51, 3) := by decide +kernel
theorem dX5_film_72 : decode cX5_film 72 = .ok (.getfield 94, 3) := by decide +kernel
theorem dX5_film_75 : decode cX5_film 75 = .ok (.invokestatic 196, 3) := by decide +kernel
theorem dX5_film_78 : decode cX5_film 78 = .ok (.invokevirtual 248, 3) := by decide +kernel
theorem dX5_film_81 : decode cX5_film 81 = .ok (.iinc 4 1, 3) := by decide +kernel
theorem dX5_film_84 : decode cX5_film 84 = .ok (.goto (-34), 3) := by decide +kernel
theorem dX5_film_87 : decode cX5_film 87 = .ok (.iload_n 2, 1) := by decide +kernel
theorem dX5_film_88 : decode cX5_film 88 = .ok (.ireturn, 1) := by decide +kernel
set_option maxRecDepth 20000 in
theorem ggX5_refusalOfTale_X5_isBelow : GoodIn wsX5_refusalOfTale wsX5_isBelow := goodIn_r _ [5] rfl (by decide +kernel)
set_option maxRecDepth 20000 in
theorem gX5_refusalOfTale_X5_isBelow : GoodIn wsX5_refusalOfTale (va_wsS RX5 100 yX5_isBelow wsX5_isBelow) := goodIn_app (goodIn_of _ (by decide +kernel)) ggX5_refusalOfTale_X5_isBelow
set_option maxRecDepth 20000 in
theorem ggX5_refusalOfTale_X3_isMissing : GoodIn wsX5_refusalOfTale wsX3_isMissing := goodIn_r _ [10, 11, 23, 24, 25] rfl (by decide +kernel)
set_option maxRecDepth 20000 in
theorem gX5_refusalOfTale_X3_isMissing : GoodIn wsX5_refusalOfTale (wsV RX5 250 RX3 yX3_isMissing wsX3_isMissing) := goodIn_app (goodIn_of _ (by decide +kernel)) ggX5_refusalOfTale_X3_isMissing
theorem dX5_refusalOfTale_0 : decode cX5_refusalOfTale 0 = .ok (.iload_n 1, 1) := by decide +kernel
theorem dX5_refusalOfTale_1 : decode cX5_refusalOfTale 1 = .ok (.iconst 4, 1) := by decide +kernel
theorem dX5_refusalOfTale_2 : decode cX5_refusalOfTale 2 = .ok (.invokestatic 100, 3) := by decide +kernel
theorem dX5_refusalOfTale_5 : decode cX5_refusalOfTale 5 = .ok (.ifCond .ne 6, 3) := by decide +kernel
theorem dX5_refusalOfTale_8 : decode cX5_refusalOfTale 8 = .ok (.bipush (-2), 2) := by decide +kernel
theorem dX5_refusalOfTale_10 : decode cX5_refusalOfTale 10 = .ok (.ireturn, 1) := by decide +kernel
theorem dX5_refusalOfTale_11 : decode cX5_refusalOfTale 11 = .ok (.aload_n 0, 1) := by decide +kernel
theorem dX5_refusalOfTale_12 : decode cX5_refusalOfTale 12 = .ok (.getfield 24, 3) := by decide +kernel
theorem dX5_refusalOfTale_15 : decode cX5_refusalOfTale 15 = .ok (.iload_n 1, 1) := by decide +kernel
theorem dX5_refusalOfTale_16 : decode cX5_refusalOfTale 16 = .ok (.aaload, 1) := by decide +kernel
theorem dX5_refusalOfTale_17 : decode cX5_refusalOfTale 17 = .ok (.invokevirtual 250, 3) := by decide +kernel
theorem dX5_refusalOfTale_20 : decode cX5_refusalOfTale 20 = .ok (.ifCond .eq 6, 3) := by decide +kernel
theorem dX5_refusalOfTale_23 : decode cX5_refusalOfTale 23 = .ok (.bipush (-11), 2) := by decide +kernel
theorem dX5_refusalOfTale_25 : decode cX5_refusalOfTale 25 = .ok (.ireturn, 1) := by decide +kernel
theorem dX5_refusalOfTale_26 : decode cX5_refusalOfTale 26 = .ok (.aload_n 0, 1) := by decide +kernel
theorem dX5_refusalOfTale_27 : decode cX5_refusalOfTale 27 = .ok (.getfield 24, 3) := by decide +kernel
theorem dX5_refusalOfTale_30 : decode cX5_refusalOfTale 30 = .ok (.iload_n 1, 1) := by decide +kernel
theorem dX5_refusalOfTale_31 : decode cX5_refusalOfTale 31 = .ok (.aaload, 1) := by decide +kernel
theorem dX5_refusalOfTale_32 : decode cX5_refusalOfTale 32 = .ok (.getfield 254, 3) := by decide +kernel
theorem dX5_refusalOfTale_35 : decode cX5_refusalOfTale 35 = .ok (.bipush 20, 2) := by decide +kernel
theorem dX5_refusalOfTale_37 : decode cX5_refusalOfTale 37 = .ok (.if_icmp .le 8, 3) := by decide +kernel
theorem dX5_refusalOfTale_40 : decode cX5_refusalOfTale 40 = .ok (.bipush (-2), 2) := by decide +kernel
theorem dX5_refusalOfTale_42 : decode cX5_refusalOfTale 42 = .ok (.goto 4, 3) := by decide +kernel
theorem dX5_refusalOfTale_45 : decode cX5_refusalOfTale 45 = .ok (.iconst 0, 1) := by decide +kernel
theorem dX5_refusalOfTale_46 : decode cX5_refusalOfTale 46 = .ok (.ireturn, 1) := by decide +kernel
set_option maxRecDepth 20000 in
theorem ggX5_refusalOfFitting_X5_refusalOfTale : GoodIn wsX5_refusalOfFitting wsX5_refusalOfTale := goodIn_r _ [5, 6, 7, 8, 4, 9, 10, 11, 12, 13, 14, 15, 16, 17, 18, 19, 20, 21, 22, 23, 24, 25, 26, 27, 28, 29] rfl (by decide +kernel)
set_option maxRecDepth 20000 in
theorem gX5_refusalOfFitting_X5_refusalOfTale : GoodIn wsX5_refusalOfFitting (wsV RX5 230 RX5 yX5_refusalOfTale wsX5_refusalOfTale) := goodIn_app (goodIn_of _ (by decide +kernel)) ggX5_refusalOfFitting_X5_refusalOfTale
set_option maxRecDepth 20000 in
theorem ggX5_refusalOfFitting_X5_isBelow : GoodIn wsX5_refusalOfFitting wsX5_isBelow := goodIn_r _ [9] rfl (by decide +kernel)
set_option maxRecDepth 20000 in
theorem gX5_refusalOfFitting_X5_isBelow : GoodIn wsX5_refusalOfFitting (va_wsS RX5 100 yX5_isBelow wsX5_isBelow) := goodIn_app (goodIn_of _ (by decide +kernel)) ggX5_refusalOfFitting_X5_isBelow
theorem dX5_refusalOfFitting_0 : decode cX5_refusalOfFitting 0 = .ok (.aload_n 0, 1) := by decide +kernel
theorem dX5_refusalOfFitting_1 : decode cX5_refusalOfFitting 1 = .ok (.iload_n 1, 1) := by decide +kernel
theorem dX5_refusalOfFitting_2 : decode cX5_refusalOfFitting 2 = .ok (.invokevirtual 230, 3) := by decide +kernel
theorem dX5_refusalOfFitting_5 : decode cX5_refusalOfFitting 5 = .ok (.istore 4, 2) := by decide +kernel
theorem dX5_refusalOfFitting_7 : decode cX5_refusalOfFitting 7 = .ok (.iload 4, 2) := by decide +kernel
theorem dX5_refusalOfFitting_9 : decode cX5_refusalOfFitting 9 = .ok (.ifCond .eq 6, 3) := by decide +kernel
theorem dX5_refusalOfFitting_12 : decode cX5_refusalOfFitting 12 = .ok (.iload 4, 2) := by decide +kernel
theorem dX5_refusalOfFitting_14 : decode cX5_refusalOfFitting 14 = .ok (.ireturn, 1) := by decide +kernel
theorem dX5_refusalOfFitting_15 : decode cX5_refusalOfFitting 15 = .ok (.iload_n 2, 1) := by decide +kernel
theorem dX5_refusalOfFitting_16 : decode cX5_refusalOfFitting 16 = .ok (.ifCond .ne 6, 3) := by decide +kernel
theorem dX5_refusalOfFitting_19 : decode cX5_refusalOfFitting 19 = .ok (.bipush (-5), 2) := by decide +kernel
theorem dX5_refusalOfFitting_21 : decode cX5_refusalOfFitting 21 = .ok (.ireturn, 1) := by decide +kernel
theorem dX5_refusalOfFitting_22 : decode cX5_refusalOfFitting 22 = .ok (.iload_n 3, 1) := by decide +kernel
theorem dX5_refusalOfFitting_23 : decode cX5_refusalOfFitting 23 = .ok (.iconst 2, 1) := by decide +kernel
theorem dX5_refusalOfFitting_24 : decode cX5_refusalOfFitting 24 = .ok (.invokestatic 100, 3) := by decide +kernel
theorem dX5_refusalOfFitting_27 : decode cX5_refusalOfFitting 27 = .ok (.ifCond .eq 7, 3) := by decide +kernel
theorem dX5_refusalOfFitting_30 : decode cX5_refusalOfFitting 30 = .ok (.iconst 0, 1) := by decide +kernel
theorem dX5_refusalOfFitting_31 : decode cX5_refusalOfFitting 31 = .ok (.goto 5, 3) := by decide +kernel
theorem dX5_refusalOfFitting_34 : decode cX5_refusalOfFitting 34 = .ok (.bipush (-7), 2) := by decide +kernel
theorem dX5_refusalOfFitting_36 : decode cX5_refusalOfFitting 36 = .ok (.ireturn, 1) := by decide +kernel
set_option maxRecDepth 20000 in
theorem ggX5_firstOtherwise_X0_passHours : GoodIn wsX5_firstOtherwise wsX0_passHours := goodIn_r _ [7, 8, 9, 10, 11, 12, 13, 14, 15, 6, 16, 17, 18, 19, 20, 21, 22, 23, 24, 25, 26, 27, 28, 29, 30, 31, 32, 33, 34, 35, 36, 37, 38, 39, 40, 41, 42, 43, 44, 45, 46, 47, 48, 49, 50, 51, 52, 53, 54, 55, 56, 57, 58, 59, 60, 61, 62, 63, 64, 65, 66, 67, 68, 69, 70, 71, 72, 73, 74, 90, 91, 92, 93, 94, 95, 96, 97, 98, 99, 100, 101, 102, 103, 104, 105, 106, 107, 108] rfl (by decide +kernel)
set_option maxRecDepth 20000 in
theorem gX5_firstOtherwise_X0_passHours : GoodIn wsX5_firstOtherwise (wsV RX5 181 RX0 yX0_passHours wsX0_passHours) := goodIn_app (goodIn_of _ (by decide +kernel)) ggX5_firstOtherwise_X0_passHours
set_option maxRecDepth 20000 in
theorem ggX5_firstOtherwise_J6_bitCount_0f7a4 : GoodIn wsX5_firstOtherwise wsJ6_bitCount_0f7a4 := goodIn_r _ [37, 38, 39, 40] rfl (by decide +kernel)
set_option maxRecDepth 20000 in
theorem gX5_firstOtherwise_J6_bitCount_0f7a4 : GoodIn wsX5_firstOtherwise (va_wsS RX5 196 yJ6_bitCount_0f7a4 wsJ6_bitCount_0f7a4) := goodIn_app (goodIn_of _ (by decide +kernel)) ggX5_firstOtherwise_J6_bitCount_0f7a4
theorem dX5_firstOtherwise_0 : decode cX5_firstOtherwise 0 = .ok (.aload_n 0, 1) := by decide +kernel
theorem dX5_firstOtherwise_1 : decode cX5_firstOtherwise 1 = .ok (.getfield 24, 3) := by decide +kernel
theorem dX5_firstOtherwise_4 : decode cX5_firstOtherwise 4 = .ok (.iload_n 1, 1) := by decide +kernel
theorem dX5_firstOtherwise_5 : decode cX5_firstOtherwise 5 = .ok (.aaload, 1) := by decide +kernel
theorem dX5_firstOtherwise_6 : decode cX5_firstOtherwise 6 = .ok (.astore_n 2, 1) := by decide +kernel
theorem dX5_firstOtherwise_7 : decode cX5_firstOtherwise 7 = .ok (.iconst 0, 1) := by decide +kernel
theorem dX5_firstOtherwise_8 : decode cX5_firstOtherwise 8 = .ok (.istore_n 3, 1) := by decide +kernel
theorem dX5_firstOtherwise_9 : decode cX5_firstOtherwise 9 = .ok (.iload_n 3, 1) := by decide +kernel
theorem dX5_firstOtherwise_10 : decode cX5_firstOtherwise 10 = .ok (.aload_n 2, 1) := by decide +kernel
theorem dX5_firstOtherwise_11 : decode cX5_firstOtherwise 11 = .ok (.getfield 254, 3) := by decide +kernel
theorem dX5_firstOtherwise_14 : decode cX5_firstOtherwise 14 = .ok (.if_icmp .ge 39, 3) := by decide +kernel
theorem dX5_firstOtherwise_17 : decode cX5_firstOtherwise 17 = .ok (.aload_n 0, 1) := by decide +kernel
theorem dX5_firstOtherwise_18 : decode cX5_firstOtherwise 18 = .ok (.getfield 51, 3) := by decide +kernel
theorem dX5_firstOtherwise_21 : decode cX5_firstOtherwise 21 = .ok (.iconst 1, 1) := by decide +kernel
theorem dX5_firstOtherwise_22 : decode cX5_firstOtherwise 22 = .ok (.invokevirtual 181, 3) := by decide +kernel
theorem dX5_firstOtherwise_25 : decode cX5_firstOtherwise 25 = .ok (.pop, 1) := by decide +kernel
theorem dX5_firstOtherwise_26 : decode cX5_firstOtherwise 26 = .ok (.aload_n 0, 1) := by decide +kernel
theorem dX5_firstOtherwise_27 : decode cX5_firstOtherwise 27 = .ok (.getfield 51, 3) := by decide +kernel
theorem dX5_firstOtherwise_30 : decode cX5_firstOtherwise 30 = .ok (.getfield 94, 3) := by decide +kernel
theorem dX5_firstOtherwise_33 : decode cX5_firstOtherwise 33 = .ok (.invokestatic 196, 3) := by decide +kernel
theorem dX5_firstOtherwise_36 : decode cX5_firstOtherwise 36 = .ok (.aload_n 2, 1) := by decide +kernel
theorem dX5_firstOtherwise_37 : decode cX5_firstOtherwise 37 = .ok (.getfield 255, 3) := by decide +kernel
theorem dX5_firstOtherwise_40 : decode cX5_firstOtherwise 40 = .ok (.iload_n 3, 1) := by decide +kernel
theorem dX5_firstOtherwise_41 : decode cX5_firstOtherwise 41 = .ok (.iaload, 1) := by decide +kernel
theorem dX5_firstOtherwise_42 : decode cX5_firstOtherwise 42 = .ok (.if_icmp .eq 5, 3) := by decide +kernel
theorem dX5_firstOtherwise_45 : decode cX5_firstOtherwise 45 = .ok (.iload_n 3, 1) := by decide +kernel
theorem dX5_firstOtherwise_46 : decode cX5_firstOtherwise 46 = .ok (.ireturn, 1) := by decide +kernel
theorem dX5_firstOtherwise_47 : decode cX5_firstOtherwise 47 = .ok (.iinc 3 1, 3) := by decide +kernel

theorem dX0_linensOf_17 : decode cX0_linensOf 17 = .ok (.iload_n 1, 1) := by decide +kernel
theorem dX0_linensOf_18 : decode cX0_linensOf 18 = .ok (.if_icmp .ne 9, 3) := by decide +kernel
theorem dX0_linensOf_21 : decode cX0_linensOf 21 = .ok (.iconst 1, 1) := by decide +kernel
theorem dX0_linensOf_22 : decode cX0_linensOf 22 = .ok (.iload_n 3, 1) := by decide +kernel
theorem dX0_linensOf_23 : decode cX0_linensOf 23 = .ok (.ishl, 1) := by decide +kernel
theorem dX0_linensOf_24 : decode cX0_linensOf 24 = .ok (.goto 4, 3) := by decide +kernel
theorem dX0_linensOf_27 : decode cX0_linensOf 27 = .ok (.iconst 0, 1) := by decide +kernel
theorem dX0_linensOf_28 : decode cX0_linensOf 28 = .ok (.ior, 1) := by decide +kernel
theorem dX0_linensOf_29 : decode cX0_linensOf 29 = .ok (.istore_n 2, 1) := by decide +kernel
theorem dX0_linensOf_30 : decode cX0_linensOf 30 = .ok (.iinc 3 1, 3) := by decide +kernel
theorem dX0_linensOf_33 : decode cX0_linensOf 33 = .ok (.goto (-29), 3) := by decide +kernel
theorem dX0_linensOf_36 : decode cX0_linensOf 36 = .ok (.iload_n 2, 1) := by decide +kernel
theorem dX0_linensOf_37 : decode cX0_linensOf 37 = .ok (.ireturn, 1) := by decide +kernel
set_option maxRecDepth 20000 in
theorem ggX0_looks_X2_says : GoodIn wsX0_looks wsX2_says := goodIn_r _ [8, 9, 10, 11, 12, 13, 14, 15, 16, 17, 18, 19, 20, 3, 21, 22, 23, 24, 25, 26, 27, 28, 29, 30, 31, 32, 33, 34, 7, 35, 36, 37, 38, 39, 40, 41, 42, 43, 44, 45, 46, 47, 48, 56, 57, 58, 59, 60, 61, 62, 63, 64, 65, 66, 67, 68, 69, 70, 71, 72, 73, 74] (by decide +kernel) (by decide +kernel)
set_option maxRecDepth 20000 in
theorem gX0_looks_X2_says : GoodIn wsX0_looks (wsV RX0 81 RX2 yX2_says wsX2_says) := goodIn_app (goodIn_of _ (by decide +kernel)) ggX0_looks_X2_says
set_option maxRecDepth 20000 in
theorem ggX0_looks_X1_looksOf : GoodIn wsX0_looks wsX1_looksOf := goodIn_r _ [52, 53, 54, 51, 55] (by decide +kernel) (by decide +kernel)
set_option maxRecDepth 20000 in
theorem gX0_looks_X1_looksOf : GoodIn wsX0_looks (va_wsS RX0 85 yX1_looksOf wsX1_looksOf) := goodIn_app (goodIn_of _ (by decide +kernel)) ggX0_looks_X1_looksOf
set_option maxRecDepth 20000 in
theorem ggX0_looks_X5_bounded : GoodIn wsX0_looks wsX5_bounded := goodIn_r _ [41, 42, 43, 44, 45, 46, 47, 48] (by decide +kernel) (by decide +kernel)
set_option maxRecDepth 20000 in
theorem gX0_looks_X5_bounded_n91 : GoodIn wsX0_looks (wsX5_bounded) := ggX0_looks_X5_bounded
theorem dX0_looks_0 : decode cX0_looks 0 = .ok (.aload_n 0, 1) := by decide +kernel
theorem dX0_looks_1 : decode cX0_looks 1 = .ok (.getfield 42, 3) := by decide +kernel
theorem dX0_looks_4 : decode cX0_looks 4 = .ok (.iconst 0, 1) := by decide +kernel
theorem dX0_looks_5 : decode cX0_looks 5 = .ok (.aload_n 0, 1) := by decide +kernel
theorem dX0_looks_6 : decode cX0_looks 6 = .ok (.iload_n 1, 1) := by decide +kernel
theorem dX0_looks_7 : decode cX0_looks 7 = .ok (.invokevirtual 81, 3) := by decide +kernel
theorem dX0_looks_10 : decode cX0_looks 10 = .ok (.istore_n 3, 1) := by decide +kernel
theorem dX0_looks_11 : decode cX0_looks 11 = .ok (.aload_n 0, 1) := by decide +kernel
theorem dX0_looks_12 : decode cX0_looks 12 = .ok (.getfield 18, 3) := by decide +kernel
theorem dX0_looks_15 : decode cX0_looks 15 = .ok (.iload_n 1, 1) := by decide +kernel
theorem dX0_looks_16 : decode cX0_looks 16 = .ok (.iaload, 1) := by decide +kernel
theorem dX0_looks_17 : decode cX0_looks 17 = .ok (.iload_n 3, 1) := by decide +kernel
theorem dX0_looks_18 : decode cX0_looks 18 = .ok (.aload_n 0, 1) := by decide +kernel
theorem dX0_looks_19 : decode cX0_looks 19 = .ok (.getfield 21, 3) := by decide +kernel
theorem dX0_looks_22 : decode cX0_looks 22 = .ok (.iload_n 1, 1) := by decide +kernel
theorem dX0_looks_23 : decode cX0_looks 23 = .ok (.iaload, 1) := by decide +kernel
theorem dX0_looks_24 : decode cX0_looks 24 = .ok (.iload_n 2, 1) := by decide +kernel
theorem dX0_looks_25 : decode cX0_looks 25 = .ok (.invokestatic 85, 3) := by decide +kernel
theorem dX0_looks_28 : decode cX0_looks 28 = .ok (.iconst 0, 1) := by decide +kernel
theorem dX0_looks_29 : decode cX0_looks 29 = .ok (.bipush 99, 2) := by decide +kernel
theorem dX0_looks_31 : decode cX0_looks 31 = .ok (.invokestatic 91, 3) := by decide +kernel
theorem dX0_looks_34 : decode cX0_looks 34 = .ok (.ireturn, 1) := by decide +kernel
set_option maxRecDepth 20000 in
theorem ggX0_waits_X2_says : GoodIn wsX0_waits wsX2_says := goodIn_r _ [9, 10, 11, 12, 13, 14, 15, 16, 17, 18, 19, 4, 20, 3, 21, 22, 23, 24, 25, 26, 27, 28, 29, 30, 31, 32, 33, 34, 8, 35, 36, 37, 38, 39, 40, 41, 42, 43, 44, 45, 46, 47, 48, 53, 54, 55, 56, 57, 58, 59, 60, 61, 62, 63, 64, 65, 66, 67, 68, 69, 70, 71] (by decide +kernel) (by decide +kernel)
set_option maxRecDepth 20000 in
theorem gX0_waits_X2_says : GoodIn wsX0_waits (wsV RX0 81 RX2 yX2_says wsX2_says) := goodIn_app (goodIn_of _ (by decide +kernel)) ggX0_waits_X2_says
set_option maxRecDepth 20000 in
theorem ggX0_waits_X1_waitsOf : GoodIn wsX0_waits wsX1_waitsOf := goodIn_r _ [52] (by decide +kernel) (by decide +kernel)
set_option maxRecDepth 20000 in
theorem gX0_waits_X1_waitsOf : GoodIn wsX0_waits (va_wsS RX0 95 yX1_waitsOf wsX1_waitsOf) := goodIn_app (goodIn_of _ (by decide +kernel)) ggX0_waits_X1_waitsOf
set_option maxRecDepth 20000 in
theorem ggX0_waits_X5_bounded : GoodIn wsX0_waits wsX5_bounded := goodIn_r _ [41, 42, 43, 44, 45, 46, 47, 48] (by decide +kernel) (by decide +kernel)
set_option maxRecDepth 20000 in
theorem gX0_waits_X5_bounded_n91 : GoodIn wsX0_waits (wsX5_bounded) := ggX0_waits_X5_bounded
theorem dX0_waits_0 : decode cX0_waits 0 = .ok (.aload_n 0, 1) := by decide +kernel
theorem dX0_waits_1 : decode cX0_waits 1 = .ok (.getfield 42, 3) := by decide +kernel
theorem dX0_waits_4 : decode cX0_waits 4 = .ok (.iconst 1, 1) := by decide +kernel
theorem dX0_waits_5 : decode cX0_waits 5 = .ok (.aload_n 0, 1) := by decide +kernel
theorem dX0_waits_6 : decode cX0_waits 6 = .ok (.iload_n 1, 1) := by decide +kernel
theorem dX0_waits_7 : decode cX0_waits 7 = .ok (.invokevirtual 81, 3) := by decide +kernel
theorem dX0_waits_10 : decode cX0_waits 10 = .ok (.istore_n 2, 1) := by decide +kernel
theorem dX0_waits_11 : decode cX0_waits 11 = .ok (.aload_n 0, 1) := by decide +kernel
theorem dX0_waits_12 : decode cX0_waits 12 = .ok (.getfield 18, 3) := by decide +kernel
theorem dX0_waits_15 : decode cX0_waits 15 = .ok (.iload_n 1, 1) := by decide +kernel
theorem dX0_waits_16 : decode cX0_waits 16 = .ok (.iaload, 1) := by decide +kernel
theorem dX0_waits_17 : decode cX0_waits 17 = .ok (.iload_n 2, 1) := by decide +kernel
theorem dX0_waits_18 : decode cX0_waits 18 = .ok (.aload_n 0, 1) := by decide +kernel
theorem dX0_waits_19 : decode cX0_waits 19 = .ok (.getfield 21, 3) := by decide +kernel
theorem dX0_waits_22 : decode cX0_waits 22 = .ok (.iload_n 1, 1) := by decide +kernel
theorem dX0_waits_23 : decode cX0_waits 23 = .ok (.iaload, 1) := by decide +kernel
theorem dX0_waits_24 : decode cX0_waits 24 = .ok (.aload_n 0, 1) := by decide +kernel
theorem dX0_waits_25 : decode cX0_waits 25 = .ok (.getfield 65, 3) := by decide +kernel
theorem dX0_waits_28 : decode cX0_waits 28 = .ok (.invokestatic 95, 3) := by decide +kernel
theorem dX0_waits_31 : decode cX0_waits 31 = .ok (.iconst 1, 1) := by decide +kernel
theorem dX0_waits_32 : decode cX0_waits 32 = .ok (.bipush 99, 2) := by decide +kernel
theorem dX0_waits_34 : decode cX0_waits 34 = .ok (.invokestatic 91, 3) := by decide +kernel
theorem dX0_waits_37 : decode cX0_waits 37 = .ok (.ireturn, 1) := by decide +kernel
set_option maxRecDepth 20000 in
theorem ggX0_drops_J6_bitCount_0f7a4 : GoodIn wsX0_drops wsJ6_bitCount_0f7a4 := goodIn_r _ [8, 9, 10, 11] (by decide +kernel) (by decide +kernel)
set_option maxRecDepth 20000 in
theorem gX0_drops_J6_bitCount_0f7a4 : GoodIn wsX0_drops (va_wsS RX0 98 yJ6_bitCount_0f7a4 wsJ6_bitCount_0f7a4) := goodIn_app (goodIn_of _ (by decide +kernel)) ggX0_drops_J6_bitCount_0f7a4
set_option maxRecDepth 20000 in
theorem ggX0_drops_X2_says : GoodIn wsX0_drops wsX2_says := goodIn_r _ [16, 17, 18, 19, 20, 21, 22, 23, 24, 25, 1, 26, 27, 4, 5, 6, 7, 8, 9, 10, 11, 28, 29, 30, 31, 32, 33, 34, 15, 35, 36, 37, 38, 39, 40, 41, 42, 43, 44, 45, 46, 47, 48, 58, 59, 60, 61, 62, 63, 64, 65, 66, 67, 68, 69, 70, 71, 72, 73, 74, 75, 76] (by decide +kernel) (by decide +kernel)
set_option maxRecDepth 20000 in
theorem gX0_drops_X2_says : GoodIn wsX0_drops (wsV RX0 81 RX2 yX2_says wsX2_says) := goodIn_app (goodIn_of _ (by decide +kernel)) ggX0_drops_X2_says
set_option maxRecDepth 20000 in
theorem ggX0_drops_X1_dropsOf : GoodIn wsX0_drops wsX1_dropsOf := goodIn_r _ [52, 53, 47, 44, 48, 54, 55, 56, 57] (by decide +kernel) (by decide +kernel)
set_option maxRecDepth 20000 in
theorem gX0_drops_X1_dropsOf : GoodIn wsX0_drops (va_wsS RX0 103 yX1_dropsOf wsX1_dropsOf) := goodIn_app (goodIn_of _ (by decide +kernel)) ggX0_drops_X1_dropsOf
theorem dX0_drops_0 : decode cX0_drops 0 = .ok (.aload_n 0, 1) := by decide +kernel
theorem dX0_drops_1 : decode cX0_drops 1 = .ok (.getfield 24, 3) := by decide +kernel
theorem dX0_drops_4 : decode cX0_drops 4 = .ok (.iload_n 1, 1) := by decide +kernel
theorem dX0_drops_5 : decode cX0_drops 5 = .ok (.iaload, 1) := by decide +kernel
theorem dX0_drops_6 : decode cX0_drops 6 = .ok (.invokestatic 98, 3) := by decide +kernel
theorem dX0_drops_9 : decode cX0_drops 9 = .ok (.istore_n 2, 1) := by decide +kernel
theorem dX0_drops_10 : decode cX0_drops 10 = .ok (.iload_n 2, 1) := by decide +kernel
theorem dX0_drops_11 : decode cX0_drops 11 = .ok (.ifCond .ne 5, 3) := by decide +kernel
theorem dX0_drops_14 : decode cX0_drops 14 = .ok (.iconst (-1), 1) := by decide +kernel
theorem dX0_drops_15 : decode cX0_drops 15 = .ok (.ireturn, 1) := by decide +kernel
theorem dX0_drops_16 : decode cX0_drops 16 = .ok (.aload_n 0, 1) := by decide +kernel
theorem dX0_drops_17 : decode cX0_drops 17 = .ok (.getfield 18, 3) := by decide +kernel
theorem dX0_drops_20 : decode cX0_drops 20 = .ok (.iload_n 1, 1) := by decide +kernel
theorem dX0_drops_21 : decode cX0_drops 21 = .ok (.iaload, 1) := by decide +kernel
theorem dX0_drops_22 : decode cX0_drops 22 = .ok (.aload_n 0, 1) := by decide +kernel
theorem dX0_drops_23 : decode cX0_drops 23 = .ok (.getfield 42, 3) := by decide +kernel
theorem dX0_drops_26 : decode cX0_drops 26 = .ok (.iconst 2, 1) := by decide +kernel
theorem dX0_drops_27 : decode cX0_drops 27 = .ok (.aload_n 0, 1) := by decide +kernel
theorem dX0_drops_28 : decode cX0_drops 28 = .ok (.iload_n 1, 1) := by decide +kernel
theorem dX0_drops_29 : decode cX0_drops 29 = .ok (.invokevirtual 81, 3) := by decide +kernel
theorem dX0_drops_32 : decode cX0_drops 32 = .ok (.aload_n 0, 1) := by decide +kernel
theorem dX0_drops_33 : decode cX0_drops 33 = .ok (.getfield 21, 3) := by decide +kernel
theorem dX0_drops_36 : decode cX0_drops 36 = .ok (.iload_n 1, 1) := by decide +kernel
theorem dX0_drops_37 : decode cX0_drops 37 = .ok (.iaload, 1) := by decide +kernel
theorem dX0_drops_38 : decode cX0_drops 38 = .ok (.iload_n 2, 1) := by decide +kernel
theorem dX0_drops_39 : decode cX0_drops 39 = .ok (.invokestatic 103, 3) := by decide +kernel
theorem dX0_drops_42 : decode cX0_drops 42 = .ok (.istore_n 3, 1) := by decide +kernel
theorem dX0_drops_43 : decode cX0_drops 43 = .ok (.iconst 0, 1) := by decide +kernel
theorem dX0_drops_44 : decode cX0_drops 44 = .ok (.istore 4, 2) := by decide +kernel
theorem dX0_drops_46 : decode cX0_drops 46 = .ok (.iload 4, 2) := by decide +kernel
theorem dX0_drops_48 : decode cX0_drops 48 = .ok (.bipush 10, 2) := by decide +kernel
theorem dX0_drops_50 : decode cX0_drops 50 = .ok (.if_icmp .ge 34, 3) := by decide +kernel
theorem dX0_drops_53 : decode cX0_drops 53 = .ok (.aload_n 0, 1) := by decide +kernel
theorem dX0_drops_54 : decode cX0_drops 54 = .ok (.getfield 24, 3) := by decide +kernel
theorem dX0_drops_57 : decode cX0_drops 57 = .ok (.iload_n 1, 1) := by decide +kernel
theorem dX0_drops_58 : decode cX0_drops 58 = .ok (.iaload, 1) := by decide +kernel
theorem dX0_drops_59 : decode cX0_drops 59 = .ok (.iload 4, 2) := by decide +kernel
theorem dX0_drops_61 : decode cX0_drops 61 = .ok (.ishr, 1) := by decide +kernel
theorem dX0_drops_62 : decode cX0_drops 62 = .ok (.iconst 1, 1) := by decide +kernel
theorem dX0_drops_63 : decode cX0_drops 63 = .ok (.iand, 1) := by decide +kernel
theorem dX0_drops_64 : decode cX0_drops 64 = .ok (.iconst 1, 1) := by decide +kernel
theorem dX0_drops_65 : decode cX0_drops 65 = .ok (.if_icmp .ne 13, 3) := by decide +kernel
theorem dX0_drops_68 : decode cX0_drops 68 = .ok (.iload_n 3, 1) := by decide +kernel
theorem dX0_drops_69 : decode cX0_drops 69 = .ok (.ifCond .ne 6, 3) := by decide +kernel
theorem dX0_drops_72 : decode cX0_drops 72 = .ok (.iload 4, 2) := by decide +kernel
theorem dX0_drops_74 : decode cX0_drops 74 = .ok (.ireturn, 1) := by decide +kernel
theorem dX0_drops_75 : decode cX0_drops 75 = .ok (.iinc 3 (-1), 3) := by decide +kernel
theorem dX0_drops_78 : decode cX0_drops 78 = .ok (.iinc 4 1, 3) := by decide +kernel
theorem dX0_drops_81 : decode cX0_drops 81 = .ok (.goto (-35), 3) := by decide +kernel
theorem dX0_drops_84 : decode cX0_drops 84 = .ok (.iconst (-1), 1) := by decide +kernel
theorem dX0_drops_85 : decode cX0_drops 85 = .ok (.ireturn, 1) := by decide +kernel
set_option maxRecDepth 20000 in
theorem ggX0_stoops_X0_looks : GoodIn wsX0_stoops wsX0_looks := goodIn_r _ [6, 7, 8, 9, 10, 11, 12, 13, 14, 15, 16, 17, 18, 19, 20, 5, 21, 22, 23, 24, 25, 26, 27, 28, 29, 30, 31, 32, 33, 34, 35, 36, 37, 38, 39, 40, 41, 42, 43, 44, 45, 46, 47, 48, 49, 50, 51, 52, 53, 54, 55, 56, 57, 58, 59, 60, 61, 62, 63, 64, 65, 66, 67, 68, 69, 70, 71, 72, 73, 74, 75, 76, 77, 78, 79] (by decide +kernel) (by decide +kernel)
set_option maxRecDepth 20000 in
theorem gX0_stoops_X0_looks : GoodIn wsX0_stoops (wsV RX0 106 RX0 yX0_looks wsX0_looks) := goodIn_app (goodIn_of _ (by decide +kernel)) ggX0_stoops_X0_looks
theorem dX0_stoops_0 : decode cX0_stoops 0 = .ok (.aload_n 0, 1) := by decide +kernel
theorem dX0_stoops_1 : decode cX0_stoops 1 = .ok (.getfield 15, 3) := by decide +kernel
theorem dX0_stoops_4 : decode cX0_stoops 4 = .ok (.iload_n 1, 1) := by decide +kernel
theorem dX0_stoops_5 : decode cX0_stoops 5 = .ok (.iaload, 1) := by decide +kernel
theorem dX0_stoops_6 : decode cX0_stoops 6 = .ok (.aload_n 0, 1) := by decide +kernel
theorem dX0_stoops_7 : decode cX0_stoops 7 = .ok (.iload_n 2, 1) := by decide +kernel
theorem dX0_stoops_8 : decode cX0_stoops 8 = .ok (.iload_n 1, 1) := by decide +kernel
theorem dX0_stoops_9 : decode cX0_stoops 9 = .ok (.invokevirtual 106, 3) := by decide +kernel
theorem dX0_stoops_12 : decode cX0_stoops 12 = .ok (.iadd, 1) := by decide +kernel
theorem dX0_stoops_13 : decode cX0_stoops 13 = .ok (.bipush 100, 2) := by decide +kernel
theorem dX0_stoops_15 : decode cX0_stoops 15 = .ok (.if_icmp .lt 7, 3) := by decide +kernel
theorem dX0_stoops_18 : decode cX0_stoops 18 = .ok (.iconst 1, 1) := by decide +kernel
theorem dX0_stoops_19 : decode cX0_stoops 19 = .ok (.goto 4, 3) := by decide +kernel
theorem dX0_stoops_22 : decode cX0_stoops 22 = .ok (.iconst 0, 1) := by decide +kernel
theorem dX0_stoops_23 : decode cX0_stoops 23 = .ok (.ireturn, 1) := by decide +kernel
set_option maxRecDepth 20000 in
theorem ggX0_stooping_X0_stoops : GoodIn wsX0_stooping wsX0_stoops := goodIn_r _ [5, 6, 7, 8, 9, 4, 10, 11, 12, 13, 14, 15, 16, 17, 18, 19, 20, 21, 22, 23, 24, 25, 26, 27, 28, 29, 30, 31, 32, 33, 34, 35, 36, 37, 38, 39, 40, 41, 42, 43, 44, 45, 46, 47, 48, 49, 50, 51, 52, 53, 54, 55, 56, 57, 58, 59, 60, 61, 62, 63, 64, 65, 66, 67, 68, 69, 70, 71, 72, 73, 74, 75, 76, 77, 78, 79, 80, 81, 82, 83] (by decide +kernel) (by decide +kernel)
set_option maxRecDepth 20000 in
theorem gX0_stooping_X0_stoops : GoodIn wsX0_stooping (wsV RX0 110 RX0 yX0_stoops wsX0_stoops) := goodIn_app (goodIn_of _ (by decide +kernel)) ggX0_stooping_X0_stoops
theorem dX0_stooping_0 : decode cX0_stooping 0 = .ok (.iconst 0, 1) := by decide +kernel
theorem dX0_stooping_1 : decode cX0_stooping 1 = .ok (.istore_n 2, 1) := by decide +kernel
theorem dX0_stooping_2 : decode cX0_stooping 2 = .ok (.iconst 0, 1) := by decide +kernel
theorem dX0_stooping_3 : decode cX0_stooping 3 = .ok (.istore_n 3, 1) := by decide +kernel
theorem dX0_stooping_4 : decode cX0_stooping 4 = .ok (.iload_n 3, 1) := by decide +kernel
theorem dX0_stooping_5 : decode cX0_stooping 5 = .ok (.bipush 6, 2) := by decide +kernel
theorem dX0_stooping_7 : decode cX0_stooping 7 = .ok (.if_icmp .ge 28, 3) := by decide +kernel
theorem dX0_stooping_10 : decode cX0_stooping 10 = .ok (.iload_n 2, 1) := by decide +kernel
theorem dX0_stooping_11 : decode cX0_stooping 11 = .ok (.aload_n 0, 1) := by decide +kernel
theorem dX0_stooping_12 : decode cX0_stooping 12 = .ok (.iload_n 3, 1) := by decide +kernel
theorem dX0_stooping_13 : decode cX0_stooping 13 = .ok (.iload_n 1, 1) := by decide +kernel
theorem dX0_stooping_14 : decode cX0_stooping 14 = .ok (.invokevirtual 110, 3) := by decide +kernel
theorem dX0_stooping_17 : decode cX0_stooping 17 = .ok (.ifCond .eq 9, 3) := by decide +kernel
theorem dX0_stooping_20 : decode cX0_stooping 20 = .ok (.iconst 1, 1) := by decide +kernel
theorem dX0_stooping_21 : decode cX0_stooping 21 = .ok (.iload_n 3, 1) := by decide +kernel
theorem dX0_stooping_22 : decode cX0_stooping 22 = .ok (.ishl, 1) := by decide +kernel
theorem dX0_stooping_23 : decode cX0_stooping 23 = .ok (.goto 4, 3) := by decide +kernel
theorem dX0_stooping_26 : decode cX0_stooping 26 = .ok (.iconst 0, 1) := by decide +kernel
theorem dX0_stooping_27 : decode cX0_stooping 27 = .ok (.ior, 1) := by decide +kernel
theorem dX0_stooping_28 : decode cX0_stooping 28 = .ok (.istore_n 2, 1) := by decide +kernel
theorem dX0_stooping_29 : decode cX0_stooping 29 = .ok (.iinc 3 1, 3) := by decide +kernel
theorem dX0_stooping_32 : decode cX0_stooping 32 = .ok (.goto (-28), 3) := by decide +kernel
theorem dX0_stooping_35 : decode cX0_stooping 35 = .ok (.iload_n 2, 1) := by decide +kernel
theorem dX0_stooping_36 : decode cX0_stooping 36 = .ok (.ireturn, 1) := by decide +kernel
set_option maxRecDepth 20000 in
theorem ggX0_canLetFall_X0_lying : GoodIn wsX0_canLetFall wsX0_lying := goodIn_r _ [6, 7, 8, 9, 10, 11, 12, 13, 14, 15, 16, 17, 18, 19, 20, 21, 22] (by decide +kernel) (by decide +kernel)
set_option maxRecDepth 20000 in
theorem gX0_canLetFall_X0_lying : GoodIn wsX0_canLetFall (wsV RX0 113 RX0 yX0_lying wsX0_lying) := goodIn_app (goodIn_of _ (by decide +kernel)) ggX0_canLetFall_X0_lying
theorem dX0_canLetFall_0 : decode cX0_canLetFall 0 = .ok (.aload_n 0, 1) := by decide +kernel
theorem dX0_canLetFall_1 : decode cX0_canLetFall 1 = .ok (.getfield 24, 3) := by decide +kernel
theorem dX0_canLetFall_4 : decode cX0_canLetFall 4 = .ok (.iload_n 1, 1) := by decide +kernel
theorem dX0_canLetFall_5 : decode cX0_canLetFall 5 = .ok (.iaload, 1) := by decide +kernel
theorem dX0_canLetFall_6 : decode cX0_canLetFall 6 = .ok (.ifCond .eq 16, 3) := by decide +kernel
theorem dX0_canLetFall_9 : decode cX0_canLetFall 9 = .ok (.aload_n 0, 1) := by decide +kernel
theorem dX0_canLetFall_10 : decode cX0_canLetFall 10 = .ok (.invokevirtual 113, 3) := by decide +kernel
theorem dX0_canLetFall_13 : decode cX0_canLetFall 13 = .ok (.bipush 8, 2) := by decide +kernel
theorem dX0_canLetFall_15 : decode cX0_canLetFall 15 = .ok (.if_icmp .ge 7, 3) := by decide +kernel
theorem dX0_canLetFall_18 : decode cX0_canLetFall 18 = .ok (.iconst 1, 1) := by decide +kernel
theorem dX0_canLetFall_19 : decode cX0_canLetFall 19 = .ok (.goto 4, 3) := by decide +kernel
theorem dX0_canLetFall_22 : decode cX0_canLetFall 22 = .ok (.iconst 0, 1) := by decide +kernel
theorem dX0_canLetFall_23 : decode cX0_canLetFall 23 = .ok (.ireturn, 1) := by decide +kernel
set_option maxRecDepth 20000 in
theorem ggX0_letFall_X0_drops : GoodIn wsX0_letFall wsX0_drops := goodIn_r _ [8, 9, 10, 11, 12, 13, 14, 15, 16, 17, 18, 19, 20, 21, 22, 23, 24, 25, 26, 27, 28, 29, 30, 7, 31, 32, 33, 34, 35, 36, 37, 38, 1, 39, 40, 41, 42, 43, 44, 45, 46, 47, 48, 49, 50, 51, 52, 53, 54, 55, 56, 57, 58, 59, 60, 61, 62, 63, 71, 72, 73, 74, 75, 76, 77, 78, 79, 80, 81, 82, 83, 84, 85, 86, 87, 88, 89] (by decide +kernel) (by decide +kernel)
set_option maxRecDepth 20000 in
theorem gX0_letFall_X0_drops : GoodIn wsX0_letFall (wsV RX0 117 RX0 yX0_drops wsX0_drops) := goodIn_app (goodIn_of _ (by decide +kernel)) ggX0_letFall_X0_drops
set_option maxRecDepth 20000 in
theorem ggX0_letFall_X0_waits : GoodIn wsX0_letFall wsX0_waits := goodIn_r _ [67, 11, 10, 12, 33, 20, 21, 22, 23, 24, 25, 26, 27, 28, 29, 30, 7, 31, 32, 9, 34, 13, 14, 15, 16, 17, 18, 19, 35, 36, 37, 38, 1, 39, 40, 41, 42, 43, 44, 45, 46, 47, 48, 49, 50, 51, 52, 53, 54, 68, 69, 57, 70, 71, 72, 73, 74, 75, 76, 77, 78, 79, 80, 81, 82, 83, 84, 85, 86, 87, 88, 89] (by decide +kernel) (by decide +kernel)
set_option maxRecDepth 20000 in
theorem gX0_letFall_X0_waits : GoodIn wsX0_letFall (wsV RX0 120 RX0 yX0_waits wsX0_waits) := goodIn_app (goodIn_of _ (by decide +kernel)) ggX0_letFall_X0_waits
theorem dX0_letFall_0 : decode cX0_letFall 0 = .ok (.aload_n 0, 1) := by decide +kernel
theorem dX0_letFall_1 : decode cX0_letFall 1 = .ok (.iload_n 1, 1) := by decide +kernel
theorem dX0_letFall_2 : decode cX0_letFall 2 = .ok (.invokevirtual 117, 3) := by decide +kernel
theorem dX0_letFall_5 : decode cX0_letFall 5 = .ok (.istore_n 2, 1) := by decide +kernel
theorem dX0_letFall_6 : decode cX0_letFall 6 = .ok (.aload_n 0, 1) := by decide +kernel
theorem dX0_letFall_7 : decode cX0_letFall 7 = .ok (.iload_n 1, 1) := by decide +kernel
theorem dX0_letFall_8 : decode cX0_letFall 8 = .ok (.invokevirtual 120, 3) := by decide +kernel
theorem dX0_letFall_11 : decode cX0_letFall 11 = .ok (.istore_n 3, 1) := by decide +kernel
theorem dX0_letFall_12 : decode cX0_letFall 12 = .ok (.iconst 0, 1) := by decide +kernel
theorem dX0_letFall_13 : decode cX0_letFall 13 = .ok (.istore 4, 2) := by decide +kernel
theorem dX0_letFall_15 : decode cX0_letFall 15 = .ok (.iload 4, 2) := by decide +kernel
theorem dX0_letFall_17 : decode cX0_letFall 17 = .ok (.bipush 8, 2) := by decide +kernel
theorem dX0_letFall_19 : decode cX0_letFall 19 = .ok (.if_icmp .ge 52, 3) := by decide +kernel
theorem dX0_letFall_22 : decode cX0_letFall 22 = .ok (.iload_n 2, 1) := by decide +kernel
theorem dX0_letFall_23 : decode cX0_letFall 23 = .ok (.iconst (-1), 1) := by decide +kernel
theorem dX0_letFall_24 : decode cX0_letFall 24 = .ok (.if_icmp .eq 47, 3) := by decide +kernel
theorem dX0_letFall_27 : decode cX0_letFall 27 = .ok (.aload_n 0, 1) := by decide +kernel
theorem dX0_letFall_28 : decode cX0_letFall 28 = .ok (.getfield 33, 3) := by decide +kernel
theorem dX0_letFall_31 : decode cX0_letFall 31 = .ok (.iload 4, 2) := by decide +kernel
theorem dX0_letFall_33 : decode cX0_letFall 33 = .ok (.iaload, 1) := by decide +kernel
theorem dX0_letFall_34 : decode cX0_letFall 34 = .ok (.iconst (-1), 1) := by decide +kernel
theorem dX0_letFall_35 : decode cX0_letFall 35 = .ok (.if_icmp .ne 30, 3) := by decide +kernel
theorem dX0_letFall_38 : decode cX0_letFall 38 = .ok (.aload_n 0, 1) := by decide +kernel
theorem dX0_letFall_39 : decode cX0_letFall 39 = .ok (.getfield 33, 3) := by decide +kernel
theorem dX0_letFall_42 : decode cX0_letFall 42 = .ok (.iload 4, 2) := by decide +kernel
theorem dX0_letFall_44 : decode cX0_letFall 44 = .ok (.iload_n 1, 1) := by decide +kernel
theorem dX0_letFall_45 : decode cX0_letFall 45 = .ok (.iastore, 1) := by decide +kernel
theorem dX0_letFall_46 : decode cX0_letFall 46 = .ok (.aload_n 0, 1) := by decide +kernel
theorem dX0_letFall_47 : decode cX0_letFall 47 = .ok (.getfield 36, 3) := by decide +kernel
theorem dX0_letFall_50 : decode cX0_letFall 50 = .ok (.iload 4, 2) := by decide +kernel
theorem dX0_letFall_52 : decode cX0_letFall 52 = .ok (.iload_n 2, 1) := by decide +kernel
theorem dX0_letFall_53 : decode cX0_letFall 53 = .ok (.iastore, 1) := by decide +kernel
theorem dX0_letFall_54 : decode cX0_letFall 54 = .ok (.aload_n 0, 1) := by decide +kernel
theorem dX0_letFall_55 : decode cX0_letFall 55 = .ok (.getfield 39, 3) := by decide +kernel
theorem dX0_letFall_58 : decode cX0_letFall 58 = .ok (.iload 4, 2) := by decide +kernel
theorem dX0_letFall_60 : decode cX0_letFall 60 = .ok (.iload_n 3, 1) := by decide +kernel
theorem dX0_letFall_61 : decode cX0_letFall 61 = .ok (.iastore, 1) := by decide +kernel
theorem dX0_letFall_62 : decode cX0_letFall 62 = .ok (.iload 4, 2) := by decide +kernel
theorem dX0_letFall_64 : decode cX0_letFall 64 = .ok (.ireturn, 1) := by decide +kernel
theorem dX0_letFall_65 : decode cX0_letFall 65 = .ok (.iinc 4 1, 3) := by decide +kernel
theorem dX0_letFall_68 : decode cX0_letFall 68 = .ok (.goto (-53), 3) := by decide +kernel
theorem dX0_letFall_71 : decode cX0_letFall 71 = .ok (.iconst (-1), 1) := by decide +kernel
theorem dX0_letFall_72 : decode cX0_letFall 72 = .ok (.ireturn, 1) := by decide +kernel
set_option maxRecDepth 20000 in
theorem ggX0_passHours_X0_looks : GoodIn wsX0_passHours wsX0_looks := goodIn_r _ [10, 11, 12, 13, 14, 15, 16, 17, 18, 19, 20, 21, 22, 23, 24, 9, 25, 26, 27, 1, 5, 28, 29, 30, 31, 32, 33, 34, 35, 36, 37, 38, 2, 39, 40, 41, 42, 43, 44, 45, 46, 47, 48, 49, 50, 51, 52, 53, 54, 55, 56, 57, 58, 59, 60, 61, 69, 70, 71, 72, 73, 74, 75, 76, 77, 78, 79, 80, 81, 82, 83, 84, 85, 86, 87] (by decide +kernel) (by decide +kernel)
set_option maxRecDepth 20000 in
theorem gX0_passHours_X0_looks : GoodIn wsX0_passHours (wsV RX0 106 RX0 yX0_looks wsX0_looks) := goodIn_app (goodIn_of _ (by decide +kernel)) ggX0_passHours_X0_looks
set_option maxRecDepth 20000 in
theorem ggX0_passHours_X0_fade : GoodIn wsX0_passHours wsX0_fade := goodIn_r _ [65, 66, 2, 67, 68, 49, 50, 51, 69, 70, 71, 72, 73, 74, 75, 76, 77, 78, 79, 80, 81, 82, 83] (by decide +kernel) (by decide +kernel)
set_option maxRecDepth 20000 in
theorem gX0_passHours_X0_fade : GoodIn wsX0_passHours (wsV RX0 123 RX0 yX0_fade wsX0_fade) := goodIn_app (goodIn_of _ (by decide +kernel)) ggX0_passHours_X0_fade
theorem dX0_passHours_0 : decode cX0_passHours 0 = .ok (.iconst 0, 1) := by decide +kernel
theorem dX0_passHours_1 : decode cX0_passHours 1 = .ok (.istore_n 2, 1) := by decide +kernel
theorem dX0_passHours_2 : decode cX0_passHours 2 = .ok (.iconst 0, 1) := by decide +kernel
theorem dX0_passHours_3 : decode cX0_passHours 3 = .ok (.istore_n 3, 1) := by decide +kernel
theorem dX0_passHours_4 : decode cX0_passHours 4 = .ok (.iload_n 3, 1) := by decide +kernel
theorem dX0_passHours_5 : decode cX0_passHours 5 = .ok (.iload_n 1, 1) := by decide +kernel
theorem dX0_passHours_6 : decode cX0_passHours 6 = .ok (.if_icmp .ge 135, 3) := by decide +kernel
theorem dX0_passHours_9 : decode cX0_passHours 9 = .ok (.aload_n 0, 1) := by decide +kernel
theorem dX0_passHours_10 : decode cX0_passHours 10 = .ok (.getfield 65, 3) := by decide +kernel
theorem dX0_passHours_13 : decode cX0_passHours 13 = .ok (.bipush 6, 2) := by decide +kernel
theorem dX0_passHours_15 : decode cX0_passHours 15 = .ok (.irem, 1) := by decide +kernel
theorem dX0_passHours_16 : decode cX0_passHours 16 = .ok (.istore 4, 2) := by decide +kernel
theorem dX0_passHours_18 : decode cX0_passHours 18 = .ok (.iconst 0, 1) := by decide +kernel
theorem dX0_passHours_19 : decode cX0_passHours 19 = .ok (.istore 5, 2) := by decide +kernel
theorem dX0_passHours_21 : decode cX0_passHours 21 = .ok (.iload 5, 2) := by decide +kernel
theorem dX0_passHours_23 : decode cX0_passHours 23 = .ok (.bipush 8, 2) := by decide +kernel
theorem dX0_passHours_25 : decode cX0_passHours 25 = .ok (.if_icmp .ge 100, 3) := by decide +kernel
theorem dX0_passHours_28 : decode cX0_passHours 28 = .ok (.aload_n 0, 1) := by decide +kernel
theorem dX0_passHours_29 : decode cX0_passHours 29 = .ok (.getfield 33, 3) := by decide +kernel
theorem dX0_passHours_32 : decode cX0_passHours 32 = .ok (.iload 5, 2) := by decide +kernel
theorem dX0_passHours_34 : decode cX0_passHours 34 = .ok (.iaload, 1) := by decide +kernel
theorem dX0_passHours_35 : decode cX0_passHours 35 = .ok (.istore 6, 2) := by decide +kernel
theorem dX0_passHours_37 : decode cX0_passHours 37 = .ok (.iload 6, 2) := by decide +kernel
theorem dX0_passHours_39 : decode cX0_passHours 39 = .ok (.iconst (-1), 1) := by decide +kernel
theorem dX0_passHours_40 : decode cX0_passHours 40 = .ok (.if_icmp .eq 65, 3) := by decide +kernel
theorem dX0_passHours_43 : decode cX0_passHours 43 = .ok (.aload_n 0, 1) := by decide +kernel
theorem dX0_passHours_44 : decode cX0_passHours 44 = .ok (.getfield 15, 3) := by decide +kernel
theorem dX0_passHours_47 : decode cX0_passHours 47 = .ok (.iload 4, 2) := by decide +kernel
theorem dX0_passHours_49 : decode cX0_passHours 49 = .ok (.iaload, 1) := by decide +kernel
theorem dX0_passHours_50 : decode cX0_passHours 50 = .ok (.aload_n 0, 1) := by decide +kernel
theorem dX0_passHours_51 : decode cX0_passHours 51 = .ok (.iload 6, 2) := by decide +kernel
theorem dX0_passHours_53 : decode cX0_passHours 53 = .ok (.iload 4, 2) := by decide +kernel
theorem dX0_passHours_55 : decode cX0_passHours 55 = .ok (.invokevirtual 106, 3) := by decide +kernel
theorem dX0_passHours_58 : decode cX0_passHours 58 = .ok (.iadd, 1) := by decide +kernel
theorem dX0_passHours_59 : decode cX0_passHours 59 = .ok (.bipush 100, 2) := by decide +kernel
theorem dX0_passHours_61 : decode cX0_passHours 61 = .ok (.if_icmp .lt 44, 3) := by decide +kernel
theorem dX0_passHours_64 : decode cX0_passHours 64 = .ok (.iload_n 2, 1) := by decide +kernel
theorem dX0_passHours_65 : decode cX0_passHours 65 = .ok (.iconst 1, 1) := by decide +kernel
theorem dX0_passHours_66 : decode cX0_passHours 66 = .ok (.aload_n 0, 1) := by decide +kernel
theorem dX0_passHours_67 : decode cX0_passHours 67 = .ok (.getfield 36, 3) := by decide +kernel
theorem dX0_passHours_70 : decode cX0_passHours 70 = .ok (.iload 5, 2) := by decide +kernel
theorem dX0_passHours_72 : decode cX0_passHours 72 = .ok (.iaload, 1) := by decide +kernel
theorem dX0_passHours_73 : decode cX0_passHours 73 = .ok (.ishl, 1) := by decide +kernel
theorem dX0_passHours_74 : decode cX0_passHours 74 = .ok (.ior, 1) := by decide +kernel
theorem dX0_passHours_75 : decode cX0_passHours 75 = .ok (.istore_n 2, 1) := by decide +kernel
theorem dX0_passHours_76 : decode cX0_passHours 76 = .ok (.aload_n 0, 1) := by decide +kernel
theorem dX0_passHours_77 : decode cX0_passHours 77 = .ok (.dup, 1) := by decide +kernel
theorem dX0_passHours_78 : decode cX0_passHours 78 = .ok (.getfield 61, 3) := by decide +kernel
theorem dX0_passHours_81 : decode cX0_passHours 81 = .ok (.iconst 1, 1) := by decide +kernel
theorem dX0_passHours_82 : decode cX0_passHours 82 = .ok (.aload_n 0, 1) := by decide +kernel
theorem dX0_passHours_83 : decode cX0_passHours 83 = .ok (.getfield 36, 3) := by decide +kernel
theorem dX0_passHours_86 : decode cX0_passHours 86 = .ok (.iload 5, 2) := by decide +kernel
theorem dX0_passHours_88 : decode cX0_passHours 88 = .ok (.iaload, 1) := by decide +kernel
theorem dX0_passHours_89 : decode cX0_passHours 89 = .ok (.ishl, 1) := by decide +kernel
theorem dX0_passHours_90 : decode cX0_passHours 90 = .ok (.ior, 1) := by decide +kernel
theorem dX0_passHours_91 : decode cX0_passHours 91 = .ok (.putfield 61, 3) := by decide +kernel
theorem dX0_passHours_94 : decode cX0_passHours 94 = .ok (.aload_n 0, 1) := by decide +kernel
theorem dX0_passHours_95 : decode cX0_passHours 95 = .ok (.getfield 33, 3) := by decide +kernel
theorem dX0_passHours_98 : decode cX0_passHours 98 = .ok (.iload 5, 2) := by decide +kernel
theorem dX0_passHours_100 : decode cX0_passHours 100 = .ok (.iconst (-1), 1) := by decide +kernel
theorem dX0_passHours_101 : decode cX0_passHours 101 = .ok (.iastore, 1) := by decide +kernel
theorem dX0_passHours_102 : decode cX0_passHours 102 = .ok (.goto 17, 3) := by decide +kernel
theorem dX0_passHours_105 : decode cX0_passHours 105 = .ok (.iload 6, 2) := by decide +kernel
theorem dX0_passHours_107 : decode cX0_passHours 107 = .ok (.iconst (-1), 1) := by decide +kernel

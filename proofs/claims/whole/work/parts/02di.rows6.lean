set_option maxRecDepth 20000 in
theorem ggX6_when_X6_lying : GoodIn wsX6_when wsX6_lying := goodIn_r _ [17, 18, 19, 20, 4, 21, 12, 2, 3, 5, 22, 23, 24, 64, 65, 66, 67, 68, 69, 70, 71, 72, 73, 74, 75, 76, 77, 78, 79, 80, 81, 82, 83, 84, 85, 86, 87, 88, 89, 90, 91, 92, 93, 94, 95, 96, 97, 98, 99, 100, 101] rfl (by decide +kernel)
set_option maxRecDepth 20000 in
theorem gX6_when_X6_lying : GoodIn wsX6_when (wsV RX6 96 RX6 yX6_lying wsX6_lying) := goodIn_app (goodIn_of _ (by decide +kernel)) ggX6_when_X6_lying
set_option maxRecDepth 20000 in
theorem ggX6_when_X6_within : GoodIn wsX6_when wsX6_within := goodIn_r _ [24] rfl (by decide +kernel)
set_option maxRecDepth 20000 in
theorem gX6_when_X6_within : GoodIn wsX6_when (va_wsS RX6 85 yX6_within wsX6_within) := goodIn_app (goodIn_of _ (by decide +kernel)) ggX6_when_X6_within
set_option maxRecDepth 20000 in
theorem ggX6_when_X6_hourOf : GoodIn wsX6_when wsX6_hourOf := goodIn_r _ [28, 13, 12, 1, 11, 18, 19, 20, 4, 21, 2, 3, 5, 22, 23, 24, 29, 30, 31, 32, 33, 34, 35, 36, 37, 38, 39, 40, 41, 42, 43, 44, 45, 46, 47, 14, 15, 16, 17, 48, 49, 50, 51, 52, 53, 54, 55, 56, 57, 58, 59, 64, 65, 66, 67, 68, 69, 70, 71, 72, 73, 74, 75, 76, 77, 78, 79, 80, 81, 82, 83, 84, 85, 86, 87, 88, 89, 90, 91, 92, 93, 94, 95, 96, 97, 98, 99, 100, 101] rfl (by decide +kernel)
set_option maxRecDepth 20000 in
theorem gX6_when_X6_hourOf : GoodIn wsX6_when (wsV RX6 213 RX6 yX6_hourOf wsX6_hourOf) := goodIn_app (goodIn_of _ (by decide +kernel)) ggX6_when_X6_hourOf
set_option maxRecDepth 20000 in
theorem ggX6_when_X6_lays : GoodIn wsX6_when wsX6_lays := goodIn_r _ [63, 11, 10, 12, 1, 13, 64, 65, 66, 67, 68, 69, 70, 71, 72, 73, 74, 75, 76, 77, 78, 79, 80, 81, 82, 83, 84, 85, 86, 87, 88, 89, 90, 91, 92, 93, 94, 95, 96, 97, 98, 99, 100, 101] rfl (by decide +kernel)
set_option maxRecDepth 20000 in
theorem gX6_when_X6_lays : GoodIn wsX6_when (wsV RX6 222 RX6 yX6_lays wsX6_lays) := goodIn_app (goodIn_of _ (by decide +kernel)) ggX6_when_X6_lays
theorem dX6_when_0 : decode cX6_when 0 = .ok (.iload_n 1, 1) := by decide +kernel
theorem dX6_when_1 : decode cX6_when 1 = .ok (.iconst (-1), 1) := by decide +kernel
theorem dX6_when_2 : decode cX6_when 2 = .ok (.bipush 9, 2) := by decide +kernel
theorem dX6_when_4 : decode cX6_when 4 = .ok (.invokestatic 81, 3) := by decide +kernel
theorem dX6_when_7 : decode cX6_when 7 = .ok (.ifCond .ne 6, 3) := by decide +kernel
theorem dX6_when_10 : decode cX6_when 10 = .ok (.bipush (-7), 2) := by decide +kernel
theorem dX6_when_12 : decode cX6_when 12 = .ok (.ireturn, 1) := by decide +kernel
theorem dX6_when_13 : decode cX6_when 13 = .ok (.iconst (-1), 1) := by decide +kernel
theorem dX6_when_14 : decode cX6_when 14 = .ok (.istore_n 2, 1) := by decide +kernel
theorem dX6_when_15 : decode cX6_when 15 = .ok (.aload_n 0, 1) := by decide +kernel
theorem dX6_when_16 : decode cX6_when 16 = .ok (.invokevirtual 216, 3) := by decide +kernel
theorem dX6_when_19 : decode cX6_when 19 = .ok (.iconst 0, 1) := by decide +kernel
theorem dX6_when_20 : decode cX6_when 20 = .ok (.istore_n 3, 1) := by decide +kernel
theorem dX6_when_21 : decode cX6_when 21 = .ok (.iload_n 3, 1) := by decide +kernel
theorem dX6_when_22 : decode cX6_when 22 = .ok (.bipush 60, 2) := by decide +kernel
theorem dX6_when_24 : decode cX6_when 24 = .ok (.if_icmp .gt 75, 3) := by decide +kernel
theorem dX6_when_27 : decode cX6_when 27 = .ok (.iload_n 2, 1) := by decide +kernel
theorem dX6_when_28 : decode cX6_when 28 = .ok (.iconst (-1), 1) := by decide +kernel
theorem dX6_when_29 : decode cX6_when 29 = .ok (.if_icmp .ne 70, 3) := by decide +kernel
theorem dX6_when_32 : decode cX6_when 32 = .ok (.iload_n 1, 1) := by decide +kernel
theorem dX6_when_33 : decode cX6_when 33 = .ok (.iconst (-1), 1) := by decide +kernel
theorem dX6_when_34 : decode cX6_when 34 = .ok (.if_icmp .ne 18, 3) := by decide +kernel
theorem dX6_when_37 : decode cX6_when 37 = .ok (.aload_n 0, 1) := by decide +kernel
theorem dX6_when_38 : decode cX6_when 38 = .ok (.invokevirtual 96, 3) := by decide +kernel
theorem dX6_when_41 : decode cX6_when 41 = .ok (.ifCond .ne 7, 3) := by decide +kernel
theorem dX6_when_44 : decode cX6_when 44 = .ok (.iconst 1, 1) := by decide +kernel
theorem dX6_when_45 : decode cX6_when 45 = .ok (.goto 30, 3) := by decide +kernel
theorem dX6_when_48 : decode cX6_when 48 = .ok (.iconst 0, 1) := by decide +kernel
theorem dX6_when_49 : decode cX6_when 49 = .ok (.goto 26, 3) := by decide +kernel
theorem dX6_when_52 : decode cX6_when 52 = .ok (.aload_n 0, 1) := by decide +kernel
theorem dX6_when_53 : decode cX6_when 53 = .ok (.getfield 109, 3) := by decide +kernel
theorem dX6_when_56 : decode cX6_when 56 = .ok (.iload_n 1, 1) := by decide +kernel
theorem dX6_when_57 : decode cX6_when 57 = .ok (.iconst 0, 1) := by decide +kernel
theorem dX6_when_58 : decode cX6_when 58 = .ok (.bipush 9, 2) := by decide +kernel
theorem dX6_when_60 : decode cX6_when 60 = .ok (.invokestatic 85, 3) := by decide +kernel
theorem dX6_when_63 : decode cX6_when 63 = .ok (.ishr, 1) := by decide +kernel
theorem dX6_when_64 : decode cX6_when 64 = .ok (.iconst 1, 1) := by decide +kernel
theorem dX6_when_65 : decode cX6_when 65 = .ok (.iand, 1) := by decide +kernel
theorem dX6_when_66 : decode cX6_when 66 = .ok (.iconst 1, 1) := by decide +kernel
theorem dX6_when_67 : decode cX6_when 67 = .ok (.if_icmp .ne 7, 3) := by decide +kernel
theorem dX6_when_70 : decode cX6_when 70 = .ok (.iconst 1, 1) := by decide +kernel
theorem dX6_when_71 : decode cX6_when 71 = .ok (.goto 4, 3) := by decide +kernel
theorem dX6_when_74 : decode cX6_when 74 = .ok (.iconst 0, 1) := by decide +kernel
theorem dX6_when_75 : decode cX6_when 75 = .ok (.istore 4, 2) := by decide +kernel
theorem dX6_when_77 : decode cX6_when 77 = .ok (.iload 4, 2) := by decide +kernel
theorem dX6_when_79 : decode cX6_when 79 = .ok (.ifCond .eq 7, 3) := by decide +kernel
theorem dX6_when_82 : decode cX6_when 82 = .ok (.iload_n 3, 1) := by decide +kernel
theorem dX6_when_83 : decode cX6_when 83 = .ok (.goto 4, 3) := by decide +kernel
theorem dX6_when_86 : decode cX6_when 86 = .ok (.iconst (-1), 1) := by decide +kernel
theorem dX6_when_87 : decode cX6_when 87 = .ok (.istore_n 2, 1) := by decide +kernel
theorem dX6_when_88 : decode cX6_when 88 = .ok (.aload_n 0, 1) := by decide +kernel
theorem dX6_when_89 : decode cX6_when 89 = .ok (.invokevirtual 213, 3) := by decide +kernel
theorem dX6_when_92 : decode cX6_when 92 = .ok (.pop, 1) := by decide +kernel
theorem dX6_when_93 : decode cX6_when 93 = .ok (.iinc 3 1, 3) := by decide +kernel
theorem dX6_when_96 : decode cX6_when 96 = .ok (.goto (-75), 3) := by decide +kernel
theorem dX6_when_99 : decode cX6_when 99 = .ok (.aload_n 0, 1) := by decide +kernel
theorem dX6_when_100 : decode cX6_when 100 = .ok (.invokevirtual 222, 3) := by decide +kernel
theorem dX6_when_103 : decode cX6_when 103 = .ok (.iload_n 2, 1) := by decide +kernel
theorem dX6_when_104 : decode cX6_when 104 = .ok (.ireturn, 1) := by decide +kernel
set_option maxRecDepth 20000 in
theorem ggX6_fateOf_X6_keeps : GoodIn wsX6_fateOf wsX6_keeps := goodIn_r _ [8, 9, 10, 2, 11, 3, 65, 66, 67, 68, 69, 70, 71, 72, 73, 74, 75, 76, 77, 78, 79, 80, 81, 82, 83, 84, 85, 86, 87, 88, 89, 90, 91, 92, 93, 94, 95, 96, 97, 98, 99, 100, 101, 102] rfl (by decide +kernel)
set_option maxRecDepth 20000 in
theorem gX6_fateOf_X6_keeps : GoodIn wsX6_fateOf (wsV RX6 216 RX6 yX6_keeps wsX6_keeps) := goodIn_app (goodIn_of _ (by decide +kernel)) ggX6_fateOf_X6_keeps
set_option maxRecDepth 20000 in
theorem ggX6_fateOf_X6_isLinen : GoodIn wsX6_fateOf wsX6_isLinen := goodIn_r _ [15, 2, 16, 17, 7, 18, 19, 20, 21, 65, 66, 67, 68, 69, 70, 71, 72, 73, 74, 75, 76, 77, 78, 79, 80, 81, 82, 83, 84, 85, 86, 87, 88, 89, 90, 91, 92, 93, 94, 95, 96, 97, 98, 99, 100, 101, 102] rfl (by decide +kernel)
set_option maxRecDepth 20000 in
theorem gX6_fateOf_X6_isLinen : GoodIn wsX6_fateOf (wsV RX6 89 RX6 yX6_isLinen wsX6_isLinen) := goodIn_app (goodIn_of _ (by decide +kernel)) ggX6_fateOf_X6_isLinen
set_option maxRecDepth 20000 in
theorem ggX6_fateOf_X6_hourOf : GoodIn wsX6_fateOf wsX6_hourOf := goodIn_r _ [25, 3, 2, 11, 10, 12, 13, 14, 7, 15, 16, 17, 18, 19, 20, 21, 26, 27, 28, 29, 30, 31, 32, 33, 34, 35, 36, 37, 38, 39, 40, 41, 42, 43, 44, 45, 46, 47, 48, 49, 50, 51, 52, 53, 54, 55, 56, 57, 58, 59, 60, 65, 66, 67, 68, 69, 70, 71, 72, 73, 74, 75, 76, 77, 78, 79, 80, 81, 82, 83, 84, 85, 86, 87, 88, 89, 90, 91, 92, 93, 94, 95, 96, 97, 98, 99, 100, 101, 102] rfl (by decide +kernel)
set_option maxRecDepth 20000 in
theorem gX6_fateOf_X6_hourOf : GoodIn wsX6_fateOf (wsV RX6 213 RX6 yX6_hourOf wsX6_hourOf) := goodIn_app (goodIn_of _ (by decide +kernel)) ggX6_fateOf_X6_hourOf
set_option maxRecDepth 20000 in
theorem ggX6_fateOf_X6_lays : GoodIn wsX6_fateOf wsX6_lays := goodIn_r _ [64, 10, 9, 2, 11, 3, 65, 66, 67, 68, 69, 70, 71, 72, 73, 74, 75, 76, 77, 78, 79, 80, 81, 82, 83, 84, 85, 86, 87, 88, 89, 90, 91, 92, 93, 94, 95, 96, 97, 98, 99, 100, 101, 102] rfl (by decide +kernel)
set_option maxRecDepth 20000 in
theorem gX6_fateOf_X6_lays : GoodIn wsX6_fateOf (wsV RX6 222 RX6 yX6_lays wsX6_lays) := goodIn_app (goodIn_of _ (by decide +kernel)) ggX6_fateOf_X6_lays
theorem dX6_fateOf_0 : decode cX6_fateOf 0 = .ok (.iconst (-1), 1) := by decide +kernel
theorem dX6_fateOf_1 : decode cX6_fateOf 1 = .ok (.istore_n 2, 1) := by decide +kernel
theorem dX6_fateOf_2 : decode cX6_fateOf 2 = .ok (.aload_n 0, 1) := by decide +kernel
theorem dX6_fateOf_3 : decode cX6_fateOf 3 = .ok (.iconst 0, 1) := by decide +kernel
theorem dX6_fateOf_4 : decode cX6_fateOf 4 = .ok (.putfield 225, 3) := by decide +kernel
theorem dX6_fateOf_7 : decode cX6_fateOf 7 = .ok (.aload_n 0, 1) := by decide +kernel
theorem dX6_fateOf_8 : decode cX6_fateOf 8 = .ok (.invokevirtual 216, 3) := by decide +kernel
theorem dX6_fateOf_11 : decode cX6_fateOf 11 = .ok (.aload_n 0, 1) := by decide +kernel
theorem dX6_fateOf_12 : decode cX6_fateOf 12 = .ok (.iload_n 1, 1) := by decide +kernel
theorem dX6_fateOf_13 : decode cX6_fateOf 13 = .ok (.invokevirtual 89, 3) := by decide +kernel
theorem dX6_fateOf_16 : decode cX6_fateOf 16 = .ok (.ifCond .eq 82, 3) := by decide +kernel
theorem dX6_fateOf_19 : decode cX6_fateOf 19 = .ok (.aload_n 0, 1) := by decide +kernel
theorem dX6_fateOf_20 : decode cX6_fateOf 20 = .ok (.getfield 19, 3) := by decide +kernel
theorem dX6_fateOf_23 : decode cX6_fateOf 23 = .ok (.iconst 3, 1) := by decide +kernel
theorem dX6_fateOf_24 : decode cX6_fateOf 24 = .ok (.iload_n 1, 1) := by decide +kernel
theorem dX6_fateOf_25 : decode cX6_fateOf 25 = .ok (.imul, 1) := by decide +kernel
theorem dX6_fateOf_26 : decode cX6_fateOf 26 = .ok (.iconst 2, 1) := by decide +kernel
theorem dX6_fateOf_27 : decode cX6_fateOf 27 = .ok (.iadd, 1) := by decide +kernel
theorem dX6_fateOf_28 : decode cX6_fateOf 28 = .ok (.iaload, 1) := by decide +kernel
theorem dX6_fateOf_29 : decode cX6_fateOf 29 = .ok (.istore_n 3, 1) := by decide +kernel
theorem dX6_fateOf_30 : decode cX6_fateOf 30 = .ok (.aload_n 0, 1) := by decide +kernel
theorem dX6_fateOf_31 : decode cX6_fateOf 31 = .ok (.getfield 93, 3) := by decide +kernel
theorem dX6_fateOf_34 : decode cX6_fateOf 34 = .ok (.bipush 6, 2) := by decide +kernel
theorem dX6_fateOf_36 : decode cX6_fateOf 36 = .ok (.irem, 1) := by decide +kernel
theorem dX6_fateOf_37 : decode cX6_fateOf 37 = .ok (.istore 4, 2) := by decide +kernel
theorem dX6_fateOf_39 : decode cX6_fateOf 39 = .ok (.aload_n 0, 1) := by decide +kernel
theorem dX6_fateOf_40 : decode cX6_fateOf 40 = .ok (.invokevirtual 213, 3) := by decide +kernel
theorem dX6_fateOf_43 : decode cX6_fateOf 43 = .ok (.pop, 1) := by decide +kernel
theorem dX6_fateOf_44 : decode cX6_fateOf 44 = .ok (.aload_n 0, 1) := by decide +kernel
theorem dX6_fateOf_45 : decode cX6_fateOf 45 = .ok (.dup, 1) := by decide +kernel
theorem dX6_fateOf_46 : decode cX6_fateOf 46 = .ok (.getfield 225, 3) := by decide +kernel
theorem dX6_fateOf_49 : decode cX6_fateOf 49 = .ok (.iconst 1, 1) := by decide +kernel
theorem dX6_fateOf_50 : decode cX6_fateOf 50 = .ok (.iadd, 1) := by decide +kernel
theorem dX6_fateOf_51 : decode cX6_fateOf 51 = .ok (.putfield 225, 3) := by decide +kernel
theorem dX6_fateOf_54 : decode cX6_fateOf 54 = .ok (.aload_n 0, 1) := by decide +kernel
theorem dX6_fateOf_55 : decode cX6_fateOf 55 = .ok (.iload_n 1, 1) := by decide +kernel
theorem dX6_fateOf_56 : decode cX6_fateOf 56 = .ok (.invokevirtual 89, 3) := by decide +kernel
theorem dX6_fateOf_59 : decode cX6_fateOf 59 = .ok (.ifCond .ne 7, 3) := by decide +kernel
theorem dX6_fateOf_62 : decode cX6_fateOf 62 = .ok (.iconst 1, 1) := by decide +kernel
theorem dX6_fateOf_63 : decode cX6_fateOf 63 = .ok (.goto 4, 3) := by decide +kernel
theorem dX6_fateOf_66 : decode cX6_fateOf 66 = .ok (.iconst 0, 1) := by decide +kernel
theorem dX6_fateOf_67 : decode cX6_fateOf 67 = .ok (.istore 5, 2) := by decide +kernel
theorem dX6_fateOf_69 : decode cX6_fateOf 69 = .ok (.iload 5, 2) := by decide +kernel
theorem dX6_fateOf_71 : decode cX6_fateOf 71 = .ok (.ifCond .eq 24, 3) := by decide +kernel
theorem dX6_fateOf_74 : decode cX6_fateOf 74 = .ok (.aload_n 0, 1) := by decide +kernel
theorem dX6_fateOf_75 : decode cX6_fateOf 75 = .ok (.getfield 19, 3) := by decide +kernel
theorem dX6_fateOf_78 : decode cX6_fateOf 78 = .ok (.iconst 3, 1) := by decide +kernel
theorem dX6_fateOf_79 : decode cX6_fateOf 79 = .ok (.iload_n 1, 1) := by decide +kernel
theorem dX6_fateOf_80 : decode cX6_fateOf 80 = .ok (.imul, 1) := by decide +kernel
theorem dX6_fateOf_81 : decode cX6_fateOf 81 = .ok (.iconst 2, 1) := by decide +kernel
theorem dX6_fateOf_82 : decode cX6_fateOf 82 = .ok (.iadd, 1) := by decide +kernel
theorem dX6_fateOf_83 : decode cX6_fateOf 83 = .ok (.iaload, 1) := by decide +kernel
theorem dX6_fateOf_84 : decode cX6_fateOf 84 = .ok (.iload_n 3, 1) := by decide +kernel
theorem dX6_fateOf_85 : decode cX6_fateOf 85 = .ok (.if_icmp .ne 8, 3) := by decide +kernel
theorem dX6_fateOf_88 : decode cX6_fateOf 88 = .ok (.iload 4, 2) := by decide +kernel
theorem dX6_fateOf_90 : decode cX6_fateOf 90 = .ok (.goto 4, 3) := by decide +kernel
theorem dX6_fateOf_93 : decode cX6_fateOf 93 = .ok (.iconst (-1), 1) := by decide +kernel
theorem dX6_fateOf_94 : decode cX6_fateOf 94 = .ok (.istore_n 2, 1) := by decide +kernel
theorem dX6_fateOf_95 : decode cX6_fateOf 95 = .ok (.goto (-84), 3) := by decide +kernel
theorem dX6_fateOf_98 : decode cX6_fateOf 98 = .ok (.aload_n 0, 1) := by decide +kernel
theorem dX6_fateOf_99 : decode cX6_fateOf 99 = .ok (.invokevirtual 222, 3) := by decide +kernel
theorem dX6_fateOf_102 : decode cX6_fateOf 102 = .ok (.iload_n 2, 1) := by decide +kernel
theorem dX6_fateOf_103 : decode cX6_fateOf 103 = .ok (.ireturn, 1) := by decide +kernel
set_option maxRecDepth 20000 in
theorem ggX6_fate_X6_isLinen : GoodIn wsX6_fate wsX6_isLinen := goodIn_r _ [6, 7, 8, 9, 5, 10, 11, 12, 13, 69, 70, 71, 72, 73, 74, 75, 76, 77, 78, 79, 80, 81, 82, 83, 84, 85, 86, 87, 88, 89, 90, 91, 92, 93, 94, 95, 96, 97, 98, 99, 100, 101, 102, 103, 104, 105, 106] rfl (by decide +kernel)
set_option maxRecDepth 20000 in
theorem gX6_fate_X6_isLinen : GoodIn wsX6_fate (wsV RX6 89 RX6 yX6_isLinen wsX6_isLinen) := goodIn_app (goodIn_of _ (by decide +kernel)) ggX6_fate_X6_isLinen
set_option maxRecDepth 20000 in
theorem ggX6_fate_X6_in : GoodIn wsX6_fate wsX6_in := goodIn_r _ [10] rfl (by decide +kernel)
set_option maxRecDepth 20000 in
theorem gX6_fate_X6_in : GoodIn wsX6_fate (va_wsS RX6 81 yX6_in wsX6_in) := goodIn_app (goodIn_of _ (by decide +kernel)) ggX6_fate_X6_in
set_option maxRecDepth 20000 in
theorem ggX6_fate_X6_fateOf : GoodIn wsX6_fate wsX6_fateOf := goodIn_r _ [17, 1, 7, 18, 19, 20, 21, 5, 22, 23, 24, 25, 2, 3, 4, 6, 8, 9, 10, 11, 12, 13, 26, 27, 28, 29, 30, 31, 32, 33, 34, 35, 36, 37, 38, 39, 40, 41, 42, 43, 44, 45, 46, 47, 48, 49, 50, 51, 52, 53, 54, 55, 56, 57, 58, 59, 60, 61, 62, 63, 64, 65, 66, 67, 68, 69, 70, 71, 72, 73, 74, 75, 76, 77, 78, 79, 80, 81, 82, 83, 84, 85, 86, 87, 88, 89, 90, 91, 92, 93, 94, 95, 96, 97, 98, 99, 100, 101, 102, 103, 104, 105, 106] rfl (by decide +kernel)
set_option maxRecDepth 20000 in
theorem gX6_fate_X6_fateOf : GoodIn wsX6_fate (wsV RX6 228 RX6 yX6_fateOf wsX6_fateOf) := goodIn_app (goodIn_of _ (by decide +kernel)) ggX6_fate_X6_fateOf
theorem dX6_fate_0 : decode cX6_fate 0 = .ok (.aload_n 0, 1) := by decide +kernel
theorem dX6_fate_1 : decode cX6_fate 1 = .ok (.iload_n 1, 1) := by decide +kernel
theorem dX6_fate_2 : decode cX6_fate 2 = .ok (.invokevirtual 89, 3) := by decide +kernel
theorem dX6_fate_5 : decode cX6_fate 5 = .ok (.ifCond .ne 6, 3) := by decide +kernel
theorem dX6_fate_8 : decode cX6_fate 8 = .ok (.bipush (-6), 2) := by decide +kernel
theorem dX6_fate_10 : decode cX6_fate 10 = .ok (.ireturn, 1) := by decide +kernel
theorem dX6_fate_11 : decode cX6_fate 11 = .ok (.iload_n 2, 1) := by decide +kernel
theorem dX6_fate_12 : decode cX6_fate 12 = .ok (.iconst 0, 1) := by decide +kernel
theorem dX6_fate_13 : decode cX6_fate 13 = .ok (.iconst 1, 1) := by decide +kernel
theorem dX6_fate_14 : decode cX6_fate 14 = .ok (.invokestatic 81, 3) := by decide +kernel
theorem dX6_fate_17 : decode cX6_fate 17 = .ok (.ifCond .ne 6, 3) := by decide +kernel
theorem dX6_fate_20 : decode cX6_fate 20 = .ok (.bipush (-7), 2) := by decide +kernel
theorem dX6_fate_22 : decode cX6_fate 22 = .ok (.ireturn, 1) := by decide +kernel
theorem dX6_fate_23 : decode cX6_fate 23 = .ok (.aload_n 0, 1) := by decide +kernel
theorem dX6_fate_24 : decode cX6_fate 24 = .ok (.iload_n 1, 1) := by decide +kernel
theorem dX6_fate_25 : decode cX6_fate 25 = .ok (.invokevirtual 228, 3) := by decide +kernel
theorem dX6_fate_28 : decode cX6_fate 28 = .ok (.istore_n 3, 1) := by decide +kernel
theorem dX6_fate_29 : decode cX6_fate 29 = .ok (.iload_n 2, 1) := by decide +kernel
theorem dX6_fate_30 : decode cX6_fate 30 = .ok (.ifCond .ne 7, 3) := by decide +kernel
theorem dX6_fate_33 : decode cX6_fate 33 = .ok (.iload_n 3, 1) := by decide +kernel
theorem dX6_fate_34 : decode cX6_fate 34 = .ok (.goto 7, 3) := by decide +kernel
theorem dX6_fate_37 : decode cX6_fate 37 = .ok (.aload_n 0, 1) := by decide +kernel
theorem dX6_fate_38 : decode cX6_fate 38 = .ok (.getfield 225, 3) := by decide +kernel
theorem dX6_fate_41 : decode cX6_fate 41 = .ok (.ireturn, 1) := by decide +kernel
set_option maxRecDepth 20000 in
theorem ggX6_advise_X6_in : GoodIn wsX6_advise wsX6_in := goodIn_r _ [6] rfl (by decide +kernel)
set_option maxRecDepth 20000 in
theorem gX6_advise_X6_in : GoodIn wsX6_advise (va_wsS RX6 81 yX6_in wsX6_in) := goodIn_app (goodIn_of _ (by decide +kernel)) ggX6_advise_X6_in
set_option maxRecDepth 20000 in
theorem ggX6_advise_X6_keeps : GoodIn wsX6_advise wsX6_keeps := goodIn_r _ [10, 11, 12, 13, 1, 14, 93, 94, 95, 96, 97, 98, 99, 100, 101, 102, 103, 104, 105, 106, 107, 108, 109, 110, 111, 112, 113, 114, 115, 116, 117, 118, 119, 120, 121, 122, 123, 124, 125, 126, 127, 128, 129, 130] rfl (by decide +kernel)
set_option maxRecDepth 20000 in
theorem gX6_advise_X6_keeps : GoodIn wsX6_advise (wsV RX6 216 RX6 yX6_keeps wsX6_keeps) := goodIn_app (goodIn_of _ (by decide +kernel)) ggX6_advise_X6_keeps
set_option maxRecDepth 20000 in
theorem ggX6_advise_X6_goes : GoodIn wsX6_advise wsX6_goes := goodIn_r _ [18, 19, 20, 21, 5, 22, 14, 13, 1, 12, 23, 24, 25, 26, 3, 4, 6, 27, 28, 29, 30, 31, 32, 33, 34, 35, 36, 37, 38, 39, 40, 41, 42, 43, 44, 45, 46, 47, 48, 49, 50, 51, 52, 53, 54, 55, 56, 57, 58, 59, 60, 61, 62, 63, 64, 93, 94, 95, 96, 97, 98, 99, 100, 101, 102, 103, 104, 105, 106, 107, 108, 109, 110, 111, 112, 113, 114, 115, 116, 117, 118, 119, 120, 121, 122, 123, 124, 125, 126, 127, 128, 129, 130] rfl (by decide +kernel)
set_option maxRecDepth 20000 in
theorem gX6_advise_X6_goes : GoodIn wsX6_advise (wsV RX6 219 RX6 yX6_goes wsX6_goes) := goodIn_app (goodIn_of _ (by decide +kernel)) ggX6_advise_X6_goes
set_option maxRecDepth 20000 in
theorem ggX6_advise_X6_verdictOf : GoodIn wsX6_advise wsX6_verdictOf := goodIn_r _ [68, 69, 93, 94, 95, 96, 97, 98, 99, 100, 101, 102, 103, 104, 105, 106, 107, 108, 109, 110, 111, 112, 113, 114, 115, 116, 117, 118, 119, 120, 121, 122, 123, 124, 125, 126, 127, 128, 129, 130] rfl (by decide +kernel)
set_option maxRecDepth 20000 in
theorem gX6_advise_X6_verdictOf : GoodIn wsX6_advise (wsV RX6 112 RX6 yX6_verdictOf wsX6_verdictOf) := goodIn_app (goodIn_of _ (by decide +kernel)) ggX6_advise_X6_verdictOf
set_option maxRecDepth 20000 in
theorem ggX6_advise_X6_lays : GoodIn wsX6_advise wsX6_lays := goodIn_r _ [73, 12, 11, 13, 1, 14, 93, 94, 95, 96, 97, 98, 99, 100, 101, 102, 103, 104, 105, 106, 107, 108, 109, 110, 111, 112, 113, 114, 115, 116, 117, 118, 119, 120, 121, 122, 123, 124, 125, 126, 127, 128, 129, 130] rfl (by decide +kernel)
set_option maxRecDepth 20000 in
theorem gX6_advise_X6_lays : GoodIn wsX6_advise (wsV RX6 222 RX6 yX6_lays wsX6_lays) := goodIn_app (goodIn_of _ (by decide +kernel)) ggX6_advise_X6_lays
set_option maxRecDepth 20000 in
theorem ggX6_advise_X6_can : GoodIn wsX6_advise wsX6_can := goodIn_r _ [77, 12, 49, 50, 51, 5, 52, 23, 24, 25, 26, 13, 3, 4, 6, 27, 28, 29, 93, 94, 95, 96, 97, 98, 99, 100, 101, 102, 103, 104, 105, 106, 107, 108, 109, 110, 111, 112, 113, 114, 115, 116, 117, 118, 119, 120, 121, 122, 123, 124, 125, 126, 127, 128, 129, 130] rfl (by decide +kernel)
set_option maxRecDepth 20000 in
theorem gX6_advise_X6_can : GoodIn wsX6_advise (wsV RX6 231 RX6 yX6_can wsX6_can) := goodIn_app (goodIn_of _ (by decide +kernel)) ggX6_advise_X6_can
set_option maxRecDepth 20000 in
theorem ggX6_advise_X6_dropOf : GoodIn wsX6_advise wsX6_dropOf := goodIn_r _ [81, 13, 82, 83, 84, 5, 85, 12, 39, 40, 46, 47, 48, 41, 42, 43, 44, 45, 14, 1, 49, 50, 51, 52, 23, 24, 25, 26, 3, 4, 6, 27, 28, 29, 53, 54, 55, 56, 57, 58, 59, 60, 61, 62, 63, 64, 86, 87, 88, 89, 90, 91, 92, 93, 94, 95, 96, 97, 98, 99, 100, 101, 102, 103, 104, 105, 106, 107, 108, 109, 110, 111, 112, 113, 114, 115, 116, 117, 118, 119, 120, 121, 122, 123, 124, 125, 126, 127, 128, 129, 130] rfl (by decide +kernel)
set_option maxRecDepth 20000 in
theorem gX6_advise_X6_dropOf : GoodIn wsX6_advise (wsV RX6 210 RX6 yX6_dropOf wsX6_dropOf) := goodIn_app (goodIn_of _ (by decide +kernel)) ggX6_advise_X6_dropOf
theorem dX6_advise_0 : decode cX6_advise 0 = .ok (.iload_n 1, 1) := by decide +kernel
theorem dX6_advise_1 : decode cX6_advise 1 = .ok (.iconst 0, 1) := by decide +kernel
theorem dX6_advise_2 : decode cX6_advise 2 = .ok (.bipush 40, 2) := by decide +kernel
theorem dX6_advise_4 : decode cX6_advise 4 = .ok (.invokestatic 81, 3) := by decide +kernel
theorem dX6_advise_7 : decode cX6_advise 7 = .ok (.ifCond .eq 12, 3) := by decide +kernel
theorem dX6_advise_10 : decode cX6_advise 10 = .ok (.iload_n 2, 1) := by decide +kernel
theorem dX6_advise_11 : decode cX6_advise 11 = .ok (.iconst 0, 1) := by decide +kernel
theorem dX6_advise_12 : decode cX6_advise 12 = .ok (.iconst 1, 1) := by decide +kernel
theorem dX6_advise_13 : decode cX6_advise 13 = .ok (.invokestatic 81, 3) := by decide +kernel
theorem dX6_advise_16 : decode cX6_advise 16 = .ok (.ifCond .ne 7, 3) := by decide +kernel
theorem dX6_advise_19 : decode cX6_advise 19 = .ok (.sipush (-5000), 3) := by decide +kernel
theorem dX6_advise_22 : decode cX6_advise 22 = .ok (.ireturn, 1) := by decide +kernel
theorem dX6_advise_23 : decode cX6_advise 23 = .ok (.iconst (-1), 1) := by decide +kernel
theorem dX6_advise_24 : decode cX6_advise 24 = .ok (.istore_n 3, 1) := by decide +kernel
theorem dX6_advise_25 : decode cX6_advise 25 = .ok (.aload_n 0, 1) := by decide +kernel
theorem dX6_advise_26 : decode cX6_advise 26 = .ok (.invokevirtual 216, 3) := by decide +kernel
theorem dX6_advise_29 : decode cX6_advise 29 = .ok (.aload_n 0, 1) := by decide +kernel
theorem dX6_advise_30 : decode cX6_advise 30 = .ok (.iload_n 1, 1) := by decide +kernel
theorem dX6_advise_31 : decode cX6_advise 31 = .ok (.invokevirtual 219, 3) := by decide +kernel
theorem dX6_advise_34 : decode cX6_advise 34 = .ok (.aload_n 0, 1) := by decide +kernel
theorem dX6_advise_35 : decode cX6_advise 35 = .ok (.aload_n 0, 1) := by decide +kernel
theorem dX6_advise_36 : decode cX6_advise 36 = .ok (.getfield 109, 3) := by decide +kernel
theorem dX6_advise_39 : decode cX6_advise 39 = .ok (.invokevirtual 112, 3) := by decide +kernel
theorem dX6_advise_42 : decode cX6_advise 42 = .ok (.istore 4, 2) := by decide +kernel
theorem dX6_advise_44 : decode cX6_advise 44 = .ok (.aload_n 0, 1) := by decide +kernel
theorem dX6_advise_45 : decode cX6_advise 45 = .ok (.invokevirtual 222, 3) := by decide +kernel
theorem dX6_advise_48 : decode cX6_advise 48 = .ok (.iconst 0, 1) := by decide +kernel
theorem dX6_advise_49 : decode cX6_advise 49 = .ok (.istore 5, 2) := by decide +kernel
theorem dX6_advise_51 : decode cX6_advise 51 = .ok (.iload 5, 2) := by decide +kernel
theorem dX6_advise_53 : decode cX6_advise 53 = .ok (.aload_n 0, 1) := by decide +kernel
theorem dX6_advise_54 : decode cX6_advise 54 = .ok (.getfield 78, 3) := by decide +kernel
theorem dX6_advise_57 : decode cX6_advise 57 = .ok (.if_icmp .ge 74, 3) := by decide +kernel
theorem dX6_advise_60 : decode cX6_advise 60 = .ok (.aload_n 0, 1) := by decide +kernel
theorem dX6_advise_61 : decode cX6_advise 61 = .ok (.iload 5, 2) := by decide +kernel
theorem dX6_advise_63 : decode cX6_advise 63 = .ok (.invokevirtual 231, 3) := by decide +kernel
theorem dX6_advise_66 : decode cX6_advise 66 = .ok (.ifCond .eq 59, 3) := by decide +kernel
theorem dX6_advise_69 : decode cX6_advise 69 = .ok (.aload_n 0, 1) := by decide +kernel
theorem dX6_advise_70 : decode cX6_advise 70 = .ok (.iload 5, 2) := by decide +kernel
theorem dX6_advise_72 : decode cX6_advise 72 = .ok (.invokevirtual 210, 3) := by decide +kernel
theorem dX6_advise_75 : decode cX6_advise 75 = .ok (.pop, 1) := by decide +kernel
theorem dX6_advise_76 : decode cX6_advise 76 = .ok (.aload_n 0, 1) := by decide +kernel
theorem dX6_advise_77 : decode cX6_advise 77 = .ok (.iload_n 1, 1) := by decide +kernel
theorem dX6_advise_78 : decode cX6_advise 78 = .ok (.invokevirtual 219, 3) := by decide +kernel
theorem dX6_advise_81 : decode cX6_advise 81 = .ok (.aload_n 0, 1) := by decide +kernel
theorem dX6_advise_82 : decode cX6_advise 82 = .ok (.aload_n 0, 1) := by decide +kernel
theorem dX6_advise_83 : decode cX6_advise 83 = .ok (.getfield 109, 3) := by decide +kernel
theorem dX6_advise_86 : decode cX6_advise 86 = .ok (.invokevirtual 112, 3) := by decide +kernel
theorem dX6_advise_89 : decode cX6_advise 89 = .ok (.istore 6, 2) := by decide +kernel
theorem dX6_advise_91 : decode cX6_advise 91 = .ok (.aload_n 0, 1) := by decide +kernel
theorem dX6_advise_92 : decode cX6_advise 92 = .ok (.invokevirtual 222, 3) := by decide +kernel
theorem dX6_advise_95 : decode cX6_advise 95 = .ok (.iload 6, 2) := by decide +kernel
theorem dX6_advise_97 : decode cX6_advise 97 = .ok (.iload 4, 2) := by decide +kernel
theorem dX6_advise_99 : decode cX6_advise 99 = .ok (.if_icmp .le 8, 3) := by decide +kernel
theorem dX6_advise_102 : decode cX6_advise 102 = .ok (.iload 5, 2) := by decide +kernel
theorem dX6_advise_104 : decode cX6_advise 104 = .ok (.goto 4, 3) := by decide +kernel
theorem dX6_advise_107 : decode cX6_advise 107 = .ok (.iload_n 3, 1) := by decide +kernel
theorem dX6_advise_108 : decode cX6_advise 108 = .ok (.istore_n 3, 1) := by decide +kernel
theorem dX6_advise_109 : decode cX6_advise 109 = .ok (.iload 6, 2) := by decide +kernel
theorem dX6_advise_111 : decode cX6_advise 111 = .ok (.iload 4, 2) := by decide +kernel
theorem dX6_advise_113 : decode cX6_advise 113 = .ok (.if_icmp .le 8, 3) := by decide +kernel
theorem dX6_advise_116 : decode cX6_advise 116 = .ok (.iload 6, 2) := by decide +kernel
theorem dX6_advise_118 : decode cX6_advise 118 = .ok (.goto 5, 3) := by decide +kernel
theorem dX6_advise_121 : decode cX6_advise 121 = .ok (.iload 4, 2) := by decide +kernel
theorem dX6_advise_123 : decode cX6_advise 123 = .ok (.istore 4, 2) := by decide +kernel
theorem dX6_advise_125 : decode cX6_advise 125 = .ok (.iinc 5 1, 3) := by decide +kernel
theorem dX6_advise_128 : decode cX6_advise 128 = .ok (.goto (-77), 3) := by decide +kernel
theorem dX6_advise_131 : decode cX6_advise 131 = .ok (.iload_n 2, 1) := by decide +kernel
theorem dX6_advise_132 : decode cX6_advise 132 = .ok (.ifCond .ne 7, 3) := by decide +kernel
theorem dX6_advise_135 : decode cX6_advise 135 = .ok (.iload_n 3, 1) := by decide +kernel
theorem dX6_advise_136 : decode cX6_advise 136 = .ok (.goto 5, 3) := by decide +kernel
theorem dX6_advise_139 : decode cX6_advise 139 = .ok (.iload 4, 2) := by decide +kernel
theorem dX6_advise_141 : decode cX6_advise 141 = .ok (.ireturn, 1) := by decide +kernel
set_option maxRecDepth 20000 in
theorem ggX6_turn_X6_in : GoodIn wsX6_turn wsX6_in := goodIn_r _ [5] rfl (by decide +kernel)
set_option maxRecDepth 20000 in
theorem gX6_turn_X6_in : GoodIn wsX6_turn (va_wsS RX6 81 yX6_in wsX6_in) := goodIn_app (goodIn_of _ (by decide +kernel)) ggX6_turn_X6_in
set_option maxRecDepth 20000 in
theorem ggX6_turn_X6_verdictOf : GoodIn wsX6_turn wsX6_verdictOf := goodIn_r _ [9, 10, 14, 15, 16, 17, 18, 19, 20, 21, 22, 23, 24, 25, 26, 27, 28, 29, 30, 31, 32, 33, 34, 35, 36, 37, 38, 39, 40, 41, 42, 43, 44, 45, 46, 47, 48, 49, 50, 51] rfl (by decide +kernel)
set_option maxRecDepth 20000 in
theorem gX6_turn_X6_verdictOf : GoodIn wsX6_turn (wsV RX6 112 RX6 yX6_verdictOf wsX6_verdictOf) := goodIn_app (goodIn_of _ (by decide +kernel)) ggX6_turn_X6_verdictOf
set_option maxRecDepth 20000 in
theorem ggX6_turn_X6_onesOf : GoodIn wsX6_turn wsX6_onesOf := goodIn_r _ [13] rfl (by decide +kernel)
set_option maxRecDepth 20000 in
theorem gX6_turn_X6_onesOf : GoodIn wsX6_turn (va_wsS RX6 177 yX6_onesOf wsX6_onesOf) := goodIn_app (goodIn_of _ (by decide +kernel)) ggX6_turn_X6_onesOf
theorem dX6_turn_0 : decode cX6_turn 0 = .ok (.iload_n 1, 1) := by decide +kernel
theorem dX6_turn_1 : decode cX6_turn 1 = .ok (.iconst 0, 1) := by decide +kernel
theorem dX6_turn_2 : decode cX6_turn 2 = .ok (.iconst 1, 1) := by decide +kernel
theorem dX6_turn_3 : decode cX6_turn 3 = .ok (.invokestatic 81, 3) := by decide +kernel
theorem dX6_turn_6 : decode cX6_turn 6 = .ok (.ifCond .ne 6, 3) := by decide +kernel
theorem dX6_turn_9 : decode cX6_turn 9 = .ok (.bipush (-2), 2) := by decide +kernel
theorem dX6_turn_11 : decode cX6_turn 11 = .ok (.ireturn, 1) := by decide +kernel
theorem dX6_turn_12 : decode cX6_turn 12 = .ok (.aload_n 0, 1) := by decide +kernel
theorem dX6_turn_13 : decode cX6_turn 13 = .ok (.aload_n 0, 1) := by decide +kernel
theorem dX6_turn_14 : decode cX6_turn 14 = .ok (.getfield 109, 3) := by decide +kernel
theorem dX6_turn_17 : decode cX6_turn 17 = .ok (.invokevirtual 112, 3) := by decide +kernel
theorem dX6_turn_20 : decode cX6_turn 20 = .ok (.ifCond .le 7, 3) := by decide +kernel
theorem dX6_turn_23 : decode cX6_turn 23 = .ok (.iconst 1, 1) := by decide +kernel
theorem dX6_turn_24 : decode cX6_turn 24 = .ok (.goto 4, 3) := by decide +kernel
theorem dX6_turn_27 : decode cX6_turn 27 = .ok (.iconst 0, 1) := by decide +kernel
theorem dX6_turn_28 : decode cX6_turn 28 = .ok (.istore_n 2, 1) := by decide +kernel
theorem dX6_turn_29 : decode cX6_turn 29 = .ok (.iconst (-1), 1) := by decide +kernel
theorem dX6_turn_30 : decode cX6_turn 30 = .ok (.istore_n 3, 1) := by decide +kernel
theorem dX6_turn_31 : decode cX6_turn 31 = .ok (.iconst (-1), 1) := by decide +kernel
theorem dX6_turn_32 : decode cX6_turn 32 = .ok (.istore 4, 2) := by decide +kernel
theorem dX6_turn_34 : decode cX6_turn 34 = .ok (.iconst 0, 1) := by decide +kernel
theorem dX6_turn_35 : decode cX6_turn 35 = .ok (.istore 5, 2) := by decide +kernel
theorem dX6_turn_37 : decode cX6_turn 37 = .ok (.iload 5, 2) := by decide +kernel
theorem dX6_turn_39 : decode cX6_turn 39 = .ok (.sipush 1023, 3) := by decide +kernel
theorem dX6_turn_42 : decode cX6_turn 42 = .ok (.if_icmp .gt 79, 3) := by decide +kernel
theorem dX6_turn_45 : decode cX6_turn 45 = .ok (.iload 5, 2) := by decide +kernel
theorem dX6_turn_47 : decode cX6_turn 47 = .ok (.aload_n 0, 1) := by decide +kernel
theorem dX6_turn_48 : decode cX6_turn 48 = .ok (.getfield 109, 3) := by decide +kernel
theorem dX6_turn_51 : decode cX6_turn 51 = .ok (.iand, 1) := by decide +kernel
theorem dX6_turn_52 : decode cX6_turn 52 = .ok (.ifCond .ne 63, 3) := by decide +kernel
theorem dX6_turn_55 : decode cX6_turn 55 = .ok (.iload_n 3, 1) := by decide +kernel
theorem dX6_turn_56 : decode cX6_turn 56 = .ok (.iconst (-1), 1) := by decide +kernel
theorem dX6_turn_57 : decode cX6_turn 57 = .ok (.if_icmp .eq 13, 3) := by decide +kernel
theorem dX6_turn_60 : decode cX6_turn 60 = .ok (.iload 5, 2) := by decide +kernel
theorem dX6_turn_62 : decode cX6_turn 62 = .ok (.invokestatic 177, 3) := by decide +kernel
theorem dX6_turn_65 : decode cX6_turn 65 = .ok (.iload 4, 2) := by decide +kernel
theorem dX6_turn_67 : decode cX6_turn 67 = .ok (.if_icmp .ge 7, 3) := by decide +kernel
theorem dX6_turn_70 : decode cX6_turn 70 = .ok (.iconst 1, 1) := by decide +kernel
theorem dX6_turn_71 : decode cX6_turn 71 = .ok (.goto 4, 3) := by decide +kernel
theorem dX6_turn_74 : decode cX6_turn 74 = .ok (.iconst 0, 1) := by decide +kernel

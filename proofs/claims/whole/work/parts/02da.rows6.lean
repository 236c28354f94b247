theorem dX6_in_0 : decode cX6_in 0 = .ok (.iload_n 0, 1) := by decide +kernel
theorem dX6_in_1 : decode cX6_in 1 = .ok (.iload_n 1, 1) := by decide +kernel
theorem dX6_in_2 : decode cX6_in 2 = .ok (.if_icmp .lt 12, 3) := by decide +kernel
theorem dX6_in_5 : decode cX6_in 5 = .ok (.iload_n 0, 1) := by decide +kernel
theorem dX6_in_6 : decode cX6_in 6 = .ok (.iload_n 2, 1) := by decide +kernel
theorem dX6_in_7 : decode cX6_in 7 = .ok (.if_icmp .gt 7, 3) := by decide +kernel
theorem dX6_in_10 : decode cX6_in 10 = .ok (.iconst 1, 1) := by decide +kernel
theorem dX6_in_11 : decode cX6_in 11 = .ok (.goto 4, 3) := by decide +kernel
theorem dX6_in_14 : decode cX6_in 14 = .ok (.iconst 0, 1) := by decide +kernel
theorem dX6_in_15 : decode cX6_in 15 = .ok (.ireturn, 1) := by decide +kernel
theorem dX6_within_0 : decode cX6_within 0 = .ok (.iload_n 0, 1) := by decide +kernel
theorem dX6_within_1 : decode cX6_within 1 = .ok (.iload_n 1, 1) := by decide +kernel
theorem dX6_within_2 : decode cX6_within 2 = .ok (.if_icmp .ge 7, 3) := by decide +kernel
theorem dX6_within_5 : decode cX6_within 5 = .ok (.iload_n 1, 1) := by decide +kernel
theorem dX6_within_6 : decode cX6_within 6 = .ok (.goto 13, 3) := by decide +kernel
theorem dX6_within_9 : decode cX6_within 9 = .ok (.iload_n 0, 1) := by decide +kernel
theorem dX6_within_10 : decode cX6_within 10 = .ok (.iload_n 2, 1) := by decide +kernel
theorem dX6_within_11 : decode cX6_within 11 = .ok (.if_icmp .le 7, 3) := by decide +kernel
theorem dX6_within_14 : decode cX6_within 14 = .ok (.iload_n 2, 1) := by decide +kernel
theorem dX6_within_15 : decode cX6_within 15 = .ok (.goto 4, 3) := by decide +kernel
theorem dX6_within_18 : decode cX6_within 18 = .ok (.iload_n 0, 1) := by decide +kernel
theorem dX6_within_19 : decode cX6_within 19 = .ok (.ireturn, 1) := by decide +kernel
theorem dX6_onesOf_0 : decode cX6_onesOf 0 = .ok (.iconst 0, 1) := by decide +kernel
theorem dX6_onesOf_1 : decode cX6_onesOf 1 = .ok (.istore_n 1, 1) := by decide +kernel
theorem dX6_onesOf_2 : decode cX6_onesOf 2 = .ok (.iconst 0, 1) := by decide +kernel
theorem dX6_onesOf_3 : decode cX6_onesOf 3 = .ok (.istore_n 2, 1) := by decide +kernel
theorem dX6_onesOf_4 : decode cX6_onesOf 4 = .ok (.iload_n 2, 1) := by decide +kernel
theorem dX6_onesOf_5 : decode cX6_onesOf 5 = .ok (.bipush 10, 2) := by decide +kernel
theorem dX6_onesOf_7 : decode cX6_onesOf 7 = .ok (.if_icmp .ge 17, 3) := by decide +kernel
theorem dX6_onesOf_10 : decode cX6_onesOf 10 = .ok (.iload_n 1, 1) := by decide +kernel
theorem dX6_onesOf_11 : decode cX6_onesOf 11 = .ok (.iload_n 0, 1) := by decide +kernel
theorem dX6_onesOf_12 : decode cX6_onesOf 12 = .ok (.iload_n 2, 1) := by decide +kernel
theorem dX6_onesOf_13 : decode cX6_onesOf 13 = .ok (.ishr, 1) := by decide +kernel
theorem dX6_onesOf_14 : decode cX6_onesOf 14 = .ok (.iconst 1, 1) := by decide +kernel
theorem dX6_onesOf_15 : decode cX6_onesOf 15 = .ok (.iand, 1) := by decide +kernel
theorem dX6_onesOf_16 : decode cX6_onesOf 16 = .ok (.iadd, 1) := by decide +kernel
theorem dX6_onesOf_17 : decode cX6_onesOf 17 = .ok (.istore_n 1, 1) := by decide +kernel
theorem dX6_onesOf_18 : decode cX6_onesOf 18 = .ok (.iinc 2 1, 3) := by decide +kernel
theorem dX6_onesOf_21 : decode cX6_onesOf 21 = .ok (.goto (-17), 3) := by decide +kernel
theorem dX6_onesOf_24 : decode cX6_onesOf 24 = .ok (.iload_n 1, 1) := by decide +kernel
theorem dX6_onesOf_25 : decode cX6_onesOf 25 = .ok (.ireturn, 1) := by decide +kernel
theorem dX6_nthOf_0 : decode cX6_nthOf 0 = .ok (.iconst 0, 1) := by decide +kernel
theorem dX6_nthOf_1 : decode cX6_nthOf 1 = .ok (.istore_n 2, 1) := by decide +kernel
theorem dX6_nthOf_2 : decode cX6_nthOf 2 = .ok (.iconst 0, 1) := by decide +kernel
theorem dX6_nthOf_3 : decode cX6_nthOf 3 = .ok (.istore_n 3, 1) := by decide +kernel
theorem dX6_nthOf_4 : decode cX6_nthOf 4 = .ok (.iload_n 3, 1) := by decide +kernel
theorem dX6_nthOf_5 : decode cX6_nthOf 5 = .ok (.bipush 10, 2) := by decide +kernel
theorem dX6_nthOf_7 : decode cX6_nthOf 7 = .ok (.if_icmp .ge 28, 3) := by decide +kernel
theorem dX6_nthOf_10 : decode cX6_nthOf 10 = .ok (.iload_n 0, 1) := by decide +kernel
theorem dX6_nthOf_11 : decode cX6_nthOf 11 = .ok (.iload_n 3, 1) := by decide +kernel
theorem dX6_nthOf_12 : decode cX6_nthOf 12 = .ok (.ishr, 1) := by decide +kernel
theorem dX6_nthOf_13 : decode cX6_nthOf 13 = .ok (.iconst 1, 1) := by decide +kernel
theorem dX6_nthOf_14 : decode cX6_nthOf 14 = .ok (.iand, 1) := by decide +kernel
theorem dX6_nthOf_15 : decode cX6_nthOf 15 = .ok (.iconst 1, 1) := by decide +kernel
theorem dX6_nthOf_16 : decode cX6_nthOf 16 = .ok (.if_icmp .ne 13, 3) := by decide +kernel
theorem dX6_nthOf_19 : decode cX6_nthOf 19 = .ok (.iload_n 2, 1) := by decide +kernel
theorem dX6_nthOf_20 : decode cX6_nthOf 20 = .ok (.iload_n 1, 1) := by decide +kernel
theorem dX6_nthOf_21 : decode cX6_nthOf 21 = .ok (.if_icmp .ne 5, 3) := by decide +kernel
theorem dX6_nthOf_24 : decode cX6_nthOf 24 = .ok (.iload_n 3, 1) := by decide +kernel
theorem dX6_nthOf_25 : decode cX6_nthOf 25 = .ok (.ireturn, 1) := by decide +kernel
theorem dX6_nthOf_26 : decode cX6_nthOf 26 = .ok (.iinc 2 1, 3) := by decide +kernel
theorem dX6_nthOf_29 : decode cX6_nthOf 29 = .ok (.iinc 3 1, 3) := by decide +kernel
theorem dX6_nthOf_32 : decode cX6_nthOf 32 = .ok (.goto (-28), 3) := by decide +kernel
theorem dX6_nthOf_35 : decode cX6_nthOf 35 = .ok (.iconst (-1), 1) := by decide +kernel
theorem dX6_nthOf_36 : decode cX6_nthOf 36 = .ok (.ireturn, 1) := by decide +kernel
set_option maxRecDepth 20000 in
theorem ggX6_isOne_X6_in : GoodIn wsX6_isOne wsX6_in := goodIn_r _ [5] rfl (by decide +kernel)
set_option maxRecDepth 20000 in
theorem gX6_isOne_X6_in : GoodIn wsX6_isOne (va_wsS RX6 81 yX6_in wsX6_in) := goodIn_app (goodIn_of _ (by decide +kernel)) ggX6_isOne_X6_in
theorem dX6_isOne_0 : decode cX6_isOne 0 = .ok (.iload_n 1, 1) := by decide +kernel
theorem dX6_isOne_1 : decode cX6_isOne 1 = .ok (.iconst 0, 1) := by decide +kernel
theorem dX6_isOne_2 : decode cX6_isOne 2 = .ok (.aload_n 0, 1) := by decide +kernel
theorem dX6_isOne_3 : decode cX6_isOne 3 = .ok (.getfield 78, 3) := by decide +kernel
theorem dX6_isOne_6 : decode cX6_isOne 6 = .ok (.iconst 1, 1) := by decide +kernel
theorem dX6_isOne_7 : decode cX6_isOne 7 = .ok (.isub, 1) := by decide +kernel
theorem dX6_isOne_8 : decode cX6_isOne 8 = .ok (.invokestatic 81, 3) := by decide +kernel
theorem dX6_isOne_11 : decode cX6_isOne 11 = .ok (.ireturn, 1) := by decide +kernel
set_option maxRecDepth 20000 in
theorem ggX6_isLinen_X6_in : GoodIn wsX6_isLinen wsX6_in := goodIn_r _ [5] rfl (by decide +kernel)
set_option maxRecDepth 20000 in
theorem gX6_isLinen_X6_in : GoodIn wsX6_isLinen (va_wsS RX6 81 yX6_in wsX6_in) := goodIn_app (goodIn_of _ (by decide +kernel)) ggX6_isLinen_X6_in
set_option maxRecDepth 20000 in
theorem ggX6_isLinen_X6_within : GoodIn wsX6_isLinen wsX6_within := goodIn_r _ [8] rfl (by decide +kernel)
set_option maxRecDepth 20000 in
theorem gX6_isLinen_X6_within : GoodIn wsX6_isLinen (va_wsS RX6 85 yX6_within wsX6_within) := goodIn_app (goodIn_of _ (by decide +kernel)) ggX6_isLinen_X6_within
theorem dX6_isLinen_0 : decode cX6_isLinen 0 = .ok (.iload_n 1, 1) := by decide +kernel
theorem dX6_isLinen_1 : decode cX6_isLinen 1 = .ok (.iconst 0, 1) := by decide +kernel
theorem dX6_isLinen_2 : decode cX6_isLinen 2 = .ok (.bipush 7, 2) := by decide +kernel
theorem dX6_isLinen_4 : decode cX6_isLinen 4 = .ok (.invokestatic 81, 3) := by decide +kernel
theorem dX6_isLinen_7 : decode cX6_isLinen 7 = .ok (.ifCond .eq 25, 3) := by decide +kernel
theorem dX6_isLinen_10 : decode cX6_isLinen 10 = .ok (.aload_n 0, 1) := by decide +kernel
theorem dX6_isLinen_11 : decode cX6_isLinen 11 = .ok (.getfield 19, 3) := by decide +kernel
theorem dX6_isLinen_14 : decode cX6_isLinen 14 = .ok (.iconst 3, 1) := by decide +kernel
theorem dX6_isLinen_15 : decode cX6_isLinen 15 = .ok (.iload_n 1, 1) := by decide +kernel
theorem dX6_isLinen_16 : decode cX6_isLinen 16 = .ok (.iconst 0, 1) := by decide +kernel
theorem dX6_isLinen_17 : decode cX6_isLinen 17 = .ok (.bipush 7, 2) := by decide +kernel
theorem dX6_isLinen_19 : decode cX6_isLinen 19 = .ok (.invokestatic 85, 3) := by decide +kernel
theorem dX6_isLinen_22 : decode cX6_isLinen 22 = .ok (.imul, 1) := by decide +kernel
theorem dX6_isLinen_23 : decode cX6_isLinen 23 = .ok (.iaload, 1) := by decide +kernel
theorem dX6_isLinen_24 : decode cX6_isLinen 24 = .ok (.iconst (-1), 1) := by decide +kernel
theorem dX6_isLinen_25 : decode cX6_isLinen 25 = .ok (.if_icmp .eq 7, 3) := by decide +kernel
theorem dX6_isLinen_28 : decode cX6_isLinen 28 = .ok (.iconst 1, 1) := by decide +kernel
theorem dX6_isLinen_29 : decode cX6_isLinen 29 = .ok (.goto 4, 3) := by decide +kernel
theorem dX6_isLinen_32 : decode cX6_isLinen 32 = .ok (.iconst 0, 1) := by decide +kernel
theorem dX6_isLinen_33 : decode cX6_isLinen 33 = .ok (.ireturn, 1) := by decide +kernel
set_option maxRecDepth 20000 in
theorem ggX6_lying_X6_isLinen : GoodIn wsX6_lying wsX6_isLinen := goodIn_r _ [5, 6, 7, 8, 4, 9, 10, 11, 12, 13, 14, 15, 16, 17, 18, 19, 20, 21, 22, 23, 24, 25, 26, 27, 28, 29, 30, 31, 32, 33, 34, 35, 36, 37, 38, 39, 40, 41, 42, 43, 44, 45, 46, 47, 48, 49, 50] rfl (by decide +kernel)
set_option maxRecDepth 20000 in
theorem gX6_lying_X6_isLinen : GoodIn wsX6_lying (wsV RX6 89 RX6 yX6_isLinen wsX6_isLinen) := goodIn_app (goodIn_of _ (by decide +kernel)) ggX6_lying_X6_isLinen
theorem dX6_lying_0 : decode cX6_lying 0 = .ok (.iconst 0, 1) := by decide +kernel
theorem dX6_lying_1 : decode cX6_lying 1 = .ok (.istore_n 1, 1) := by decide +kernel
theorem dX6_lying_2 : decode cX6_lying 2 = .ok (.iconst 0, 1) := by decide +kernel
theorem dX6_lying_3 : decode cX6_lying 3 = .ok (.istore_n 2, 1) := by decide +kernel
theorem dX6_lying_4 : decode cX6_lying 4 = .ok (.iload_n 2, 1) := by decide +kernel
theorem dX6_lying_5 : decode cX6_lying 5 = .ok (.bipush 8, 2) := by decide +kernel
theorem dX6_lying_7 : decode cX6_lying 7 = .ok (.if_icmp .ge 25, 3) := by decide +kernel
theorem dX6_lying_10 : decode cX6_lying 10 = .ok (.iload_n 1, 1) := by decide +kernel
theorem dX6_lying_11 : decode cX6_lying 11 = .ok (.aload_n 0, 1) := by decide +kernel
theorem dX6_lying_12 : decode cX6_lying 12 = .ok (.iload_n 2, 1) := by decide +kernel
theorem dX6_lying_13 : decode cX6_lying 13 = .ok (.invokevirtual 89, 3) := by decide +kernel
theorem dX6_lying_16 : decode cX6_lying 16 = .ok (.ifCond .eq 7, 3) := by decide +kernel
theorem dX6_lying_19 : decode cX6_lying 19 = .ok (.iconst 1, 1) := by decide +kernel
theorem dX6_lying_20 : decode cX6_lying 20 = .ok (.goto 4, 3) := by decide +kernel
theorem dX6_lying_23 : decode cX6_lying 23 = .ok (.iconst 0, 1) := by decide +kernel
theorem dX6_lying_24 : decode cX6_lying 24 = .ok (.iadd, 1) := by decide +kernel
theorem dX6_lying_25 : decode cX6_lying 25 = .ok (.istore_n 1, 1) := by decide +kernel
theorem dX6_lying_26 : decode cX6_lying 26 = .ok (.iinc 2 1, 3) := by decide +kernel
theorem dX6_lying_29 : decode cX6_lying 29 = .ok (.goto (-25), 3) := by decide +kernel
theorem dX6_lying_32 : decode cX6_lying 32 = .ok (.iload_n 1, 1) := by decide +kernel
theorem dX6_lying_33 : decode cX6_lying 33 = .ok (.ireturn, 1) := by decide +kernel
theorem dX6_verdictOf_0 : decode cX6_verdictOf 0 = .ok (.iconst 0, 1) := by decide +kernel
theorem dX6_verdictOf_1 : decode cX6_verdictOf 1 = .ok (.istore_n 2, 1) := by decide +kernel
theorem dX6_verdictOf_2 : decode cX6_verdictOf 2 = .ok (.iconst 0, 1) := by decide +kernel
theorem dX6_verdictOf_3 : decode cX6_verdictOf 3 = .ok (.istore_n 3, 1) := by decide +kernel
theorem dX6_verdictOf_4 : decode cX6_verdictOf 4 = .ok (.iload_n 3, 1) := by decide +kernel
theorem dX6_verdictOf_5 : decode cX6_verdictOf 5 = .ok (.bipush 10, 2) := by decide +kernel
theorem dX6_verdictOf_7 : decode cX6_verdictOf 7 = .ok (.if_icmp .ge 31, 3) := by decide +kernel
theorem dX6_verdictOf_10 : decode cX6_verdictOf 10 = .ok (.iload_n 2, 1) := by decide +kernel
theorem dX6_verdictOf_11 : decode cX6_verdictOf 11 = .ok (.iload_n 1, 1) := by decide +kernel
theorem dX6_verdictOf_12 : decode cX6_verdictOf 12 = .ok (.iload_n 3, 1) := by decide +kernel
theorem dX6_verdictOf_13 : decode cX6_verdictOf 13 = .ok (.ishr, 1) := by decide +kernel
theorem dX6_verdictOf_14 : decode cX6_verdictOf 14 = .ok (.iconst 1, 1) := by decide +kernel
theorem dX6_verdictOf_15 : decode cX6_verdictOf 15 = .ok (.iand, 1) := by decide +kernel
theorem dX6_verdictOf_16 : decode cX6_verdictOf 16 = .ok (.iconst 1, 1) := by decide +kernel
theorem dX6_verdictOf_17 : decode cX6_verdictOf 17 = .ok (.if_icmp .ne 12, 3) := by decide +kernel
theorem dX6_verdictOf_20 : decode cX6_verdictOf 20 = .ok (.aload_n 0, 1) := by decide +kernel
theorem dX6_verdictOf_21 : decode cX6_verdictOf 21 = .ok (.getfield 22, 3) := by decide +kernel
theorem dX6_verdictOf_24 : decode cX6_verdictOf 24 = .ok (.iload_n 3, 1) := by decide +kernel
theorem dX6_verdictOf_25 : decode cX6_verdictOf 25 = .ok (.iaload, 1) := by decide +kernel
theorem dX6_verdictOf_26 : decode cX6_verdictOf 26 = .ok (.goto 4, 3) := by decide +kernel
theorem dX6_verdictOf_29 : decode cX6_verdictOf 29 = .ok (.iconst 0, 1) := by decide +kernel
theorem dX6_verdictOf_30 : decode cX6_verdictOf 30 = .ok (.iadd, 1) := by decide +kernel
theorem dX6_verdictOf_31 : decode cX6_verdictOf 31 = .ok (.istore_n 2, 1) := by decide +kernel
theorem dX6_verdictOf_32 : decode cX6_verdictOf 32 = .ok (.iinc 3 1, 3) := by decide +kernel
theorem dX6_verdictOf_35 : decode cX6_verdictOf 35 = .ok (.goto (-31), 3) := by decide +kernel
theorem dX6_verdictOf_38 : decode cX6_verdictOf 38 = .ok (.iload_n 2, 1) := by decide +kernel
theorem dX6_verdictOf_39 : decode cX6_verdictOf 39 = .ok (.ireturn, 1) := by decide +kernel
set_option maxRecDepth 20000 in
theorem ggX6_count_X6_lying : GoodIn wsX6_count wsX6_lying := goodIn_r _ [10, 11, 12, 13, 9, 14, 15, 16, 17, 18, 19, 20, 21, 22, 23, 24, 25, 26, 27, 28, 29, 30, 31, 32, 33, 34, 35, 36, 37, 38, 39, 40, 41, 42, 43, 44, 45, 46, 47, 48, 49, 50, 51, 52, 53, 54, 55, 56, 57, 58, 59] rfl (by decide +kernel)
set_option maxRecDepth 20000 in
theorem gX6_count_X6_lying : GoodIn wsX6_count (wsV RX6 96 RX6 yX6_lying wsX6_lying) := goodIn_app (goodIn_of _ (by decide +kernel)) ggX6_count_X6_lying
theorem dX6_count_0 : decode cX6_count 0 = .ok (.iload_n 1, 1) := by decide +kernel
theorem dX6_count_1 : decode cX6_count 1 = .ok (.tableswitch 69 0 5 #[39, 44, 49, 54, 59, 64], 39) := by decide +kernel
theorem dX6_count_40 : decode cX6_count 40 = .ok (.aload_n 0, 1) := by decide +kernel
theorem dX6_count_41 : decode cX6_count 41 = .ok (.getfield 78, 3) := by decide +kernel
theorem dX6_count_44 : decode cX6_count 44 = .ok (.ireturn, 1) := by decide +kernel
theorem dX6_count_45 : decode cX6_count 45 = .ok (.aload_n 0, 1) := by decide +kernel
theorem dX6_count_46 : decode cX6_count 46 = .ok (.getfield 93, 3) := by decide +kernel
theorem dX6_count_49 : decode cX6_count 49 = .ok (.ireturn, 1) := by decide +kernel
theorem dX6_count_50 : decode cX6_count 50 = .ok (.aload_n 0, 1) := by decide +kernel
theorem dX6_count_51 : decode cX6_count 51 = .ok (.invokevirtual 96, 3) := by decide +kernel
theorem dX6_count_54 : decode cX6_count 54 = .ok (.ireturn, 1) := by decide +kernel
theorem dX6_count_55 : decode cX6_count 55 = .ok (.aload_n 0, 1) := by decide +kernel
theorem dX6_count_56 : decode cX6_count 56 = .ok (.getfield 99, 3) := by decide +kernel
theorem dX6_count_59 : decode cX6_count 59 = .ok (.ireturn, 1) := by decide +kernel
theorem dX6_count_60 : decode cX6_count 60 = .ok (.aload_n 0, 1) := by decide +kernel
theorem dX6_count_61 : decode cX6_count 61 = .ok (.getfield 102, 3) := by decide +kernel
theorem dX6_count_64 : decode cX6_count 64 = .ok (.ireturn, 1) := by decide +kernel
theorem dX6_count_65 : decode cX6_count 65 = .ok (.aload_n 0, 1) := by decide +kernel
theorem dX6_count_66 : decode cX6_count 66 = .ok (.getfield 70, 3) := by decide +kernel
theorem dX6_count_69 : decode cX6_count 69 = .ok (.ireturn, 1) := by decide +kernel
theorem dX6_count_70 : decode cX6_count 70 = .ok (.bipush (-2), 2) := by decide +kernel
theorem dX6_count_72 : decode cX6_count 72 = .ok (.ireturn, 1) := by decide +kernel
set_option maxRecDepth 20000 in
theorem ggX6_isThere_X6_in : GoodIn wsX6_isThere wsX6_in := goodIn_r _ [4] rfl (by decide +kernel)
set_option maxRecDepth 20000 in
theorem gX6_isThere_X6_in : GoodIn wsX6_isThere (va_wsS RX6 81 yX6_in wsX6_in) := goodIn_app (goodIn_of _ (by decide +kernel)) ggX6_isThere_X6_in
theorem dX6_isThere_0 : decode cX6_isThere 0 = .ok (.iload_n 0, 1) := by decide +kernel
theorem dX6_isThere_1 : decode cX6_isThere 1 = .ok (.ifCond .ne 13, 3) := by decide +kernel
theorem dX6_isThere_4 : decode cX6_isThere 4 = .ok (.iload_n 1, 1) := by decide +kernel
theorem dX6_isThere_5 : decode cX6_isThere 5 = .ok (.iconst 0, 1) := by decide +kernel
theorem dX6_isThere_6 : decode cX6_isThere 6 = .ok (.bipush 9, 2) := by decide +kernel
theorem dX6_isThere_8 : decode cX6_isThere 8 = .ok (.invokestatic 81, 3) := by decide +kernel
theorem dX6_isThere_11 : decode cX6_isThere 11 = .ok (.goto 22, 3) := by decide +kernel
theorem dX6_isThere_14 : decode cX6_isThere 14 = .ok (.iload_n 0, 1) := by decide +kernel
theorem dX6_isThere_15 : decode cX6_isThere 15 = .ok (.iconst 1, 1) := by decide +kernel
theorem dX6_isThere_16 : decode cX6_isThere 16 = .ok (.if_icmp .ne 12, 3) := by decide +kernel
theorem dX6_isThere_19 : decode cX6_isThere 19 = .ok (.iload_n 1, 1) := by decide +kernel
theorem dX6_isThere_20 : decode cX6_isThere 20 = .ok (.iconst 0, 1) := by decide +kernel
theorem dX6_isThere_21 : decode cX6_isThere 21 = .ok (.iconst 5, 1) := by decide +kernel
theorem dX6_isThere_22 : decode cX6_isThere 22 = .ok (.invokestatic 81, 3) := by decide +kernel
theorem dX6_isThere_25 : decode cX6_isThere 25 = .ok (.ifCond .eq 7, 3) := by decide +kernel
theorem dX6_isThere_28 : decode cX6_isThere 28 = .ok (.iconst 1, 1) := by decide +kernel
theorem dX6_isThere_29 : decode cX6_isThere 29 = .ok (.goto 4, 3) := by decide +kernel
theorem dX6_isThere_32 : decode cX6_isThere 32 = .ok (.iconst 0, 1) := by decide +kernel
theorem dX6_isThere_33 : decode cX6_isThere 33 = .ok (.ireturn, 1) := by decide +kernel
set_option maxRecDepth 20000 in
theorem ggX6_court_X6_in : GoodIn wsX6_court wsX6_in := goodIn_r _ [8] rfl (by decide +kernel)
set_option maxRecDepth 20000 in
theorem gX6_court_X6_in : GoodIn wsX6_court (va_wsS RX6 81 yX6_in wsX6_in) := goodIn_app (goodIn_of _ (by decide +kernel)) ggX6_court_X6_in
set_option maxRecDepth 20000 in
theorem ggX6_court_X6_isThere : GoodIn wsX6_court wsX6_isThere := goodIn_r _ [11, 5, 6, 7, 8] rfl (by decide +kernel)
set_option maxRecDepth 20000 in
theorem gX6_court_X6_isThere : GoodIn wsX6_court (va_wsS RX6 105 yX6_isThere wsX6_isThere) := goodIn_app (goodIn_of _ (by decide +kernel)) ggX6_court_X6_isThere
theorem dX6_court_0 : decode cX6_court 0 = .ok (.iload_n 1, 1) := by decide +kernel
theorem dX6_court_1 : decode cX6_court 1 = .ok (.iconst 0, 1) := by decide +kernel
theorem dX6_court_2 : decode cX6_court 2 = .ok (.iconst 3, 1) := by decide +kernel
theorem dX6_court_3 : decode cX6_court 3 = .ok (.invokestatic 81, 3) := by decide +kernel
theorem dX6_court_6 : decode cX6_court 6 = .ok (.ifCond .eq 11, 3) := by decide +kernel
theorem dX6_court_9 : decode cX6_court 9 = .ok (.iload_n 1, 1) := by decide +kernel
theorem dX6_court_10 : decode cX6_court 10 = .ok (.iload_n 2, 1) := by decide +kernel
theorem dX6_court_11 : decode cX6_court 11 = .ok (.invokestatic 105, 3) := by decide +kernel
theorem dX6_court_14 : decode cX6_court 14 = .ok (.ifCond .ne 7, 3) := by decide +kernel
theorem dX6_court_17 : decode cX6_court 17 = .ok (.sipush (-5000), 3) := by decide +kernel
theorem dX6_court_20 : decode cX6_court 20 = .ok (.ireturn, 1) := by decide +kernel
theorem dX6_court_21 : decode cX6_court 21 = .ok (.iload_n 1, 1) := by decide +kernel
theorem dX6_court_22 : decode cX6_court 22 = .ok (.iconst 2, 1) := by decide +kernel
theorem dX6_court_23 : decode cX6_court 23 = .ok (.if_icmp .ge 8, 3) := by decide +kernel
theorem dX6_court_26 : decode cX6_court 26 = .ok (.bipush 99, 2) := by decide +kernel
theorem dX6_court_28 : decode cX6_court 28 = .ok (.goto 17, 3) := by decide +kernel
theorem dX6_court_31 : decode cX6_court 31 = .ok (.iload_n 1, 1) := by decide +kernel
theorem dX6_court_32 : decode cX6_court 32 = .ok (.iconst 2, 1) := by decide +kernel
theorem dX6_court_33 : decode cX6_court 33 = .ok (.if_icmp .ne 9, 3) := by decide +kernel
theorem dX6_court_36 : decode cX6_court 36 = .ok (.sipush 999, 3) := by decide +kernel
theorem dX6_court_39 : decode cX6_court 39 = .ok (.goto 6, 3) := by decide +kernel
theorem dX6_court_42 : decode cX6_court 42 = .ok (.sipush 1023, 3) := by decide +kernel
theorem dX6_court_45 : decode cX6_court 45 = .ok (.istore 4, 2) := by decide +kernel
theorem dX6_court_47 : decode cX6_court 47 = .ok (.iload_n 3, 1) := by decide +kernel
theorem dX6_court_48 : decode cX6_court 48 = .ok (.iload_n 1, 1) := by decide +kernel
theorem dX6_court_49 : decode cX6_court 49 = .ok (.ifCond .ne 8, 3) := by decide +kernel
theorem dX6_court_52 : decode cX6_court 52 = .ok (.bipush (-99), 2) := by decide +kernel
theorem dX6_court_54 : decode cX6_court 54 = .ok (.goto 4, 3) := by decide +kernel
theorem dX6_court_57 : decode cX6_court 57 = .ok (.iconst 0, 1) := by decide +kernel
theorem dX6_court_58 : decode cX6_court 58 = .ok (.iload 4, 2) := by decide +kernel
theorem dX6_court_60 : decode cX6_court 60 = .ok (.invokestatic 81, 3) := by decide +kernel
theorem dX6_court_63 : decode cX6_court 63 = .ok (.ifCond .ne 7, 3) := by decide +kernel
theorem dX6_court_66 : decode cX6_court 66 = .ok (.sipush (-7000), 3) := by decide +kernel
theorem dX6_court_69 : decode cX6_court 69 = .ok (.ireturn, 1) := by decide +kernel
theorem dX6_court_70 : decode cX6_court 70 = .ok (.iconst 0, 1) := by decide +kernel
theorem dX6_court_71 : decode cX6_court 71 = .ok (.istore 5, 2) := by decide +kernel
theorem dX6_court_73 : decode cX6_court 73 = .ok (.iload_n 1, 1) := by decide +kernel
theorem dX6_court_74 : decode cX6_court 74 = .ok (.tableswitch 76 0 2 #[26, 44, 62], 26) := by decide +kernel
theorem dX6_court_100 : decode cX6_court 100 = .ok (.aload_n 0, 1) := by decide +kernel
theorem dX6_court_101 : decode cX6_court 101 = .ok (.getfield 22, 3) := by decide +kernel
theorem dX6_court_104 : decode cX6_court 104 = .ok (.iload_n 2, 1) := by decide +kernel
theorem dX6_court_105 : decode cX6_court 105 = .ok (.iaload, 1) := by decide +kernel
theorem dX6_court_106 : decode cX6_court 106 = .ok (.istore 5, 2) := by decide +kernel
theorem dX6_court_108 : decode cX6_court 108 = .ok (.aload_n 0, 1) := by decide +kernel
theorem dX6_court_109 : decode cX6_court 109 = .ok (.getfield 22, 3) := by decide +kernel
theorem dX6_court_112 : decode cX6_court 112 = .ok (.iload_n 2, 1) := by decide +kernel
theorem dX6_court_113 : decode cX6_court 113 = .ok (.iload_n 3, 1) := by decide +kernel
theorem dX6_court_114 : decode cX6_court 114 = .ok (.iastore, 1) := by decide +kernel
theorem dX6_court_115 : decode cX6_court 115 = .ok (.goto 46, 3) := by decide +kernel
theorem dX6_court_118 : decode cX6_court 118 = .ok (.aload_n 0, 1) := by decide +kernel
theorem dX6_court_119 : decode cX6_court 119 = .ok (.getfield 25, 3) := by decide +kernel
theorem dX6_court_122 : decode cX6_court 122 = .ok (.iload_n 2, 1) := by decide +kernel
theorem dX6_court_123 : decode cX6_court 123 = .ok (.iaload, 1) := by decide +kernel
theorem dX6_court_124 : decode cX6_court 124 = .ok (.istore 5, 2) := by decide +kernel
theorem dX6_court_126 : decode cX6_court 126 = .ok (.aload_n 0, 1) := by decide +kernel
theorem dX6_court_127 : decode cX6_court 127 = .ok (.getfield 25, 3) := by decide +kernel
theorem dX6_court_130 : decode cX6_court 130 = .ok (.iload_n 2, 1) := by decide +kernel
theorem dX6_court_131 : decode cX6_court 131 = .ok (.iload_n 3, 1) := by decide +kernel
theorem dX6_court_132 : decode cX6_court 132 = .ok (.iastore, 1) := by decide +kernel
theorem dX6_court_133 : decode cX6_court 133 = .ok (.goto 28, 3) := by decide +kernel
theorem dX6_court_136 : decode cX6_court 136 = .ok (.aload_n 0, 1) := by decide +kernel
theorem dX6_court_137 : decode cX6_court 137 = .ok (.getfield 93, 3) := by decide +kernel
theorem dX6_court_140 : decode cX6_court 140 = .ok (.istore 5, 2) := by decide +kernel
theorem dX6_court_142 : decode cX6_court 142 = .ok (.aload_n 0, 1) := by decide +kernel
theorem dX6_court_143 : decode cX6_court 143 = .ok (.iload_n 3, 1) := by decide +kernel
theorem dX6_court_144 : decode cX6_court 144 = .ok (.putfield 93, 3) := by decide +kernel
theorem dX6_court_147 : decode cX6_court 147 = .ok (.goto 14, 3) := by decide +kernel
theorem dX6_court_150 : decode cX6_court 150 = .ok (.aload_n 0, 1) := by decide +kernel
theorem dX6_court_151 : decode cX6_court 151 = .ok (.getfield 109, 3) := by decide +kernel
theorem dX6_court_154 : decode cX6_court 154 = .ok (.istore 5, 2) := by decide +kernel
theorem dX6_court_156 : decode cX6_court 156 = .ok (.aload_n 0, 1) := by decide +kernel
theorem dX6_court_157 : decode cX6_court 157 = .ok (.iload_n 3, 1) := by decide +kernel
theorem dX6_court_158 : decode cX6_court 158 = .ok (.putfield 109, 3) := by decide +kernel
theorem dX6_court_161 : decode cX6_court 161 = .ok (.iload 5, 2) := by decide +kernel
theorem dX6_court_163 : decode cX6_court 163 = .ok (.ireturn, 1) := by decide +kernel
set_option maxRecDepth 20000 in
theorem ggX6_bench_X6_in : GoodIn wsX6_bench wsX6_in := goodIn_r _ [8] rfl (by decide +kernel)
set_option maxRecDepth 20000 in
theorem gX6_bench_X6_in : GoodIn wsX6_bench (va_wsS RX6 81 yX6_in wsX6_in) := goodIn_app (goodIn_of _ (by decide +kernel)) ggX6_bench_X6_in
set_option maxRecDepth 20000 in
theorem ggX6_bench_X6_isThere : GoodIn wsX6_bench wsX6_isThere := goodIn_r _ [11, 5, 6, 7, 8] rfl (by decide +kernel)
set_option maxRecDepth 20000 in
theorem gX6_bench_X6_isThere : GoodIn wsX6_bench (va_wsS RX6 105 yX6_isThere wsX6_isThere) := goodIn_app (goodIn_of _ (by decide +kernel)) ggX6_bench_X6_isThere
set_option maxRecDepth 20000 in
theorem ggX6_bench_X6_verdictOf : GoodIn wsX6_bench wsX6_verdictOf := goodIn_r _ [15, 1, 16, 17, 18, 19, 20, 21, 22, 23, 24, 25, 26, 27, 28, 29, 30, 31, 32, 33, 34, 35, 36, 37, 38, 39, 40, 41, 42, 43, 44, 45, 46, 47, 48, 49, 50, 51, 52, 53] rfl (by decide +kernel)
set_option maxRecDepth 20000 in
theorem gX6_bench_X6_verdictOf : GoodIn wsX6_bench (wsV RX6 112 RX6 yX6_verdictOf wsX6_verdictOf) := goodIn_app (goodIn_of _ (by decide +kernel)) ggX6_bench_X6_verdictOf
theorem dX6_bench_0 : decode cX6_bench 0 = .ok (.iload_n 1, 1) := by decide +kernel
theorem dX6_bench_1 : decode cX6_bench 1 = .ok (.iconst 0, 1) := by decide +kernel
theorem dX6_bench_2 : decode cX6_bench 2 = .ok (.iconst 4, 1) := by decide +kernel
theorem dX6_bench_3 : decode cX6_bench 3 = .ok (.invokestatic 81, 3) := by decide +kernel
theorem dX6_bench_6 : decode cX6_bench 6 = .ok (.ifCond .eq 11, 3) := by decide +kernel
theorem dX6_bench_9 : decode cX6_bench 9 = .ok (.iload_n 1, 1) := by decide +kernel
theorem dX6_bench_10 : decode cX6_bench 10 = .ok (.iload_n 2, 1) := by decide +kernel
theorem dX6_bench_11 : decode cX6_bench 11 = .ok (.invokestatic 105, 3) := by decide +kernel
theorem dX6_bench_14 : decode cX6_bench 14 = .ok (.ifCond .ne 7, 3) := by decide +kernel
theorem dX6_bench_17 : decode cX6_bench 17 = .ok (.sipush (-5000), 3) := by decide +kernel
theorem dX6_bench_20 : decode cX6_bench 20 = .ok (.ireturn, 1) := by decide +kernel
theorem dX6_bench_21 : decode cX6_bench 21 = .ok (.iload_n 1, 1) := by decide +kernel
theorem dX6_bench_22 : decode cX6_bench 22 = .ok (.tableswitch 58 0 3 #[30, 37, 44, 49], 30) := by decide +kernel
theorem dX6_bench_52 : decode cX6_bench 52 = .ok (.aload_n 0, 1) := by decide +kernel
theorem dX6_bench_53 : decode cX6_bench 53 = .ok (.getfield 22, 3) := by decide +kernel
theorem dX6_bench_56 : decode cX6_bench 56 = .ok (.iload_n 2, 1) := by decide +kernel
theorem dX6_bench_57 : decode cX6_bench 57 = .ok (.iaload, 1) := by decide +kernel
theorem dX6_bench_58 : decode cX6_bench 58 = .ok (.ireturn, 1) := by decide +kernel
theorem dX6_bench_59 : decode cX6_bench 59 = .ok (.aload_n 0, 1) := by decide +kernel
theorem dX6_bench_60 : decode cX6_bench 60 = .ok (.getfield 25, 3) := by decide +kernel
theorem dX6_bench_63 : decode cX6_bench 63 = .ok (.iload_n 2, 1) := by decide +kernel

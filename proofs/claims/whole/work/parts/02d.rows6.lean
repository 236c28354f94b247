theorem dX6_in_0 : decode cX6_in 0 = .ok (.iload_n 0, 1) := by decide +kernel
theorem dX6_in_1 : decode cX6_in 1 = .ok (.iload_n 1, 1) := by decide +kernel
theorem dX6_in_2 : decode cX6_in 2 = .ok (.if_icmp .lt 12, 3) := by decide +kernel
theorem dX6_in_5 : decode cX6_in 5 = .ok (.iload_n 0, 1) := by decide +kernel
theorem dX6_in_6 : decode cX6_in 6 = .ok (.iload_n 2, 1) := by decide +kernel
theorem dX6_in_7 : decode cX6_in 7 = .ok (.if_icmp .gt 7, 3) := by decide +kernel
theorem dX6_in_10 : decode cX6_in 10 = .ok (.iconst 1, 1) := by decide +kernel
theorem dX6_in_11 : decode cX6_in 11 = .ok (.goto 4, 3) := by decide +kernel
theorem dX6_in_14 : decode cX6_in 14 = .ok (.iconst 0, 1) := by decide +kernel
theorem dX6_in_15 : decode cX6_in 15 = .ok (.ireturn, 1) := by decide +kernel
theorem dX6_within_0 : decode cX6_within 0 = .ok (.iload_n 0, 1) := by decide +kernel
theorem dX6_within_1 : decode cX6_within 1 = .ok (.iload_n 1, 1) := by decide +kernel
theorem dX6_within_2 : decode cX6_within 2 = .ok (.if_icmp .ge 7, 3) := by decide +kernel
theorem dX6_within_5 : decode cX6_within 5 = .ok (.iload_n 1, 1) := by decide +kernel
theorem dX6_within_6 : decode cX6_within 6 = .ok (.goto 13, 3) := by decide +kernel
theorem dX6_within_9 : decode cX6_within 9 = .ok (.iload_n 0, 1) := by decide +kernel
theorem dX6_within_10 : decode cX6_within 10 = .ok (.iload_n 2, 1) := by decide +kernel
theorem dX6_within_11 : decode cX6_within 11 = .ok (.if_icmp .le 7, 3) := by decide +kernel
theorem dX6_within_14 : decode cX6_within 14 = .ok (.iload_n 2, 1) := by decide +kernel
theorem dX6_within_15 : decode cX6_within 15 = .ok (.goto 4, 3) := by decide +kernel
theorem dX6_within_18 : decode cX6_within 18 = .ok (.iload_n 0, 1) := by decide +kernel
theorem dX6_within_19 : decode cX6_within 19 = .ok (.ireturn, 1) := by decide +kernel
theorem dX6_onesOf_0 : decode cX6_onesOf 0 = .ok (.iconst 0, 1) := by decide +kernel
theorem dX6_onesOf_1 : decode cX6_onesOf 1 = .ok (.istore_n 1, 1) := by decide +kernel
theorem dX6_onesOf_2 : decode cX6_onesOf 2 = .ok (.iconst 0, 1) := by decide +kernel
theorem dX6_onesOf_3 : decode cX6_onesOf 3 = .ok (.istore_n 2, 1) := by decide +kernel
theorem dX6_onesOf_4 : decode cX6_onesOf 4 = .ok (.iload_n 2, 1) := by decide +kernel
theorem dX6_onesOf_5 : decode cX6_onesOf 5 = .ok (.bipush 10, 2) := by decide +kernel
theorem dX6_onesOf_7 : decode cX6_onesOf 7 = .ok (.if_icmp .ge 17, 3) := by decide +kernel
theorem dX6_onesOf_10 : decode cX6_onesOf 10 = .ok (.iload_n 1, 1) := by decide +kernel
theorem dX6_onesOf_11 : decode cX6_onesOf 11 = .ok (.iload_n 0, 1) := by decide +kernel
theorem dX6_onesOf_12 : decode cX6_onesOf 12 = .ok (.iload_n 2, 1) := by decide +kernel
theorem dX6_onesOf_13 : decode cX6_onesOf 13 = .ok (.ishr, 1) := by decide +kernel
theorem dX6_onesOf_14 : decode cX6_onesOf 14 = .ok (.iconst 1, 1) := by decide +kernel
theorem dX6_onesOf_15 : decode cX6_onesOf 15 = .ok (.iand, 1) := by decide +kernel
theorem dX6_onesOf_16 : decode cX6_onesOf 16 = .ok (.iadd, 1) := by decide +kernel
theorem dX6_onesOf_17 : decode cX6_onesOf 17 = .ok (.istore_n 1, 1) := by decide +kernel
theorem dX6_onesOf_18 : decode cX6_onesOf 18 = .ok (.iinc 2 1, 3) := by decide +kernel
theorem dX6_onesOf_21 : decode cX6_onesOf 21 = .ok (.goto (-17), 3) := by decide +kernel
theorem dX6_onesOf_24 : decode cX6_onesOf 24 = .ok (.iload_n 1, 1) := by decide +kernel
theorem dX6_onesOf_25 : decode cX6_onesOf 25 = .ok (.ireturn, 1) := by decide +kernel
theorem dX6_nthOf_0 : decode cX6_nthOf 0 = .ok (.iconst 0, 1) := by decide +kernel
theorem dX6_nthOf_1 : decode cX6_nthOf 1 = .ok (.istore_n 2, 1) := by decide +kernel
theorem dX6_nthOf_2 : decode cX6_nthOf 2 = .ok (.iconst 0, 1) := by decide +kernel
theorem dX6_nthOf_3 : decode cX6_nthOf 3 = .ok (.istore_n 3, 1) := by decide +kernel
theorem dX6_nthOf_4 : decode cX6_nthOf 4 = .ok (.iload_n 3, 1) := by decide +kernel
theorem dX6_nthOf_5 : decode cX6_nthOf 5 = .ok (.bipush 10, 2) := by decide +kernel
theorem dX6_nthOf_7 : decode cX6_nthOf 7 = .ok (.if_icmp .ge 28, 3) := by decide +kernel
theorem dX6_nthOf_10 : decode cX6_nthOf 10 = .ok (.iload_n 0, 1) := by decide +kernel
theorem dX6_nthOf_11 : decode cX6_nthOf 11 = .ok (.iload_n 3, 1) := by decide +kernel
theorem dX6_nthOf_12 : decode cX6_nthOf 12 = .ok (.ishr, 1) := by decide +kernel
theorem dX6_nthOf_13 : decode cX6_nthOf 13 = .ok (.iconst 1, 1) := by decide +kernel
theorem dX6_nthOf_14 : decode cX6_nthOf 14 = .ok (.iand, 1) := by decide +kernel
theorem dX6_nthOf_15 : decode cX6_nthOf 15 = .ok (.iconst 1, 1) := by decide +kernel
theorem dX6_nthOf_16 : decode cX6_nthOf 16 = .ok (.if_icmp .ne 13, 3) := by decide +kernel
theorem dX6_nthOf_19 : decode cX6_nthOf 19 = .ok (.iload_n 2, 1) := by decide +kernel
theorem dX6_nthOf_20 : decode cX6_nthOf 20 = .ok (.iload_n 1, 1) := by decide +kernel
theorem dX6_nthOf_21 : decode cX6_nthOf 21 = .ok (.if_icmp .ne 5, 3) := by decide +kernel
theorem dX6_nthOf_24 : decode cX6_nthOf 24 = .ok (.iload_n 3, 1) := by decide +kernel
theorem dX6_nthOf_25 : decode cX6_nthOf 25 = .ok (.ireturn, 1) := by decide +kernel
theorem dX6_nthOf_26 : decode cX6_nthOf 26 = .ok (.iinc 2 1, 3) := by decide +kernel
theorem dX6_nthOf_29 : decode cX6_nthOf 29 = .ok (.iinc 3 1, 3) := by decide +kernel
theorem dX6_nthOf_32 : decode cX6_nthOf 32 = .ok (.goto (-28), 3) := by decide +kernel
theorem dX6_nthOf_35 : decode cX6_nthOf 35 = .ok (.iconst (-1), 1) := by decide +kernel
theorem dX6_nthOf_36 : decode cX6_nthOf 36 = .ok (.ireturn, 1) := by decide +kernel
set_option maxRecDepth 20000 in
theorem ggX6_isOne_X6_in : GoodIn wsX6_isOne wsX6_in := goodIn_r _ [5] (by decide +kernel) (by decide +kernel)
set_option maxRecDepth 20000 in
theorem gX6_isOne_X6_in : GoodIn wsX6_isOne (va_wsS RX6 81 yX6_in wsX6_in) := goodIn_app (goodIn_of _ (by decide +kernel)) ggX6_isOne_X6_in
theorem dX6_isOne_0 : decode cX6_isOne 0 = .ok (.iload_n 1, 1) := by decide +kernel
theorem dX6_isOne_1 : decode cX6_isOne 1 = .ok (.iconst 0, 1) := by decide +kernel
theorem dX6_isOne_2 : decode cX6_isOne 2 = .ok (.aload_n 0, 1) := by decide +kernel
theorem dX6_isOne_3 : decode cX6_isOne 3 = .ok (.getfield 78, 3) := by decide +kernel
theorem dX6_isOne_6 : decode cX6_isOne 6 = .ok (.iconst 1, 1) := by decide +kernel
theorem dX6_isOne_7 : decode cX6_isOne 7 = .ok (.isub, 1) := by decide +kernel
theorem dX6_isOne_8 : decode cX6_isOne 8 = .ok (.invokestatic 81, 3) := by decide +kernel
theorem dX6_isOne_11 : decode cX6_isOne 11 = .ok (.ireturn, 1) := by decide +kernel
set_option maxRecDepth 20000 in
theorem ggX6_isLinen_X6_in : GoodIn wsX6_isLinen wsX6_in := goodIn_r _ [5] (by decide +kernel) (by decide +kernel)
set_option maxRecDepth 20000 in
theorem gX6_isLinen_X6_in : GoodIn wsX6_isLinen (va_wsS RX6 81 yX6_in wsX6_in) := goodIn_app (goodIn_of _ (by decide +kernel)) ggX6_isLinen_X6_in
set_option maxRecDepth 20000 in
theorem ggX6_isLinen_X6_within : GoodIn wsX6_isLinen wsX6_within := goodIn_r _ [8] (by decide +kernel) (by decide +kernel)
set_option maxRecDepth 20000 in
theorem gX6_isLinen_X6_within : GoodIn wsX6_isLinen (va_wsS RX6 85 yX6_within wsX6_within) := goodIn_app (goodIn_of _ (by decide +kernel)) ggX6_isLinen_X6_within
theorem dX6_isLinen_0 : decode cX6_isLinen 0 = .ok (.iload_n 1, 1) := by decide +kernel
theorem dX6_isLinen_1 : decode cX6_isLinen 1 = .ok (.iconst 0, 1) := by decide +kernel
theorem dX6_isLinen_2 : decode cX6_isLinen 2 = .ok (.bipush 7, 2) := by decide +kernel
theorem dX6_isLinen_4 : decode cX6_isLinen 4 = .ok (.invokestatic 81, 3) := by decide +kernel
theorem dX6_isLinen_7 : decode cX6_isLinen 7 = .ok (.ifCond .eq 25, 3) := by decide +kernel
theorem dX6_isLinen_10 : decode cX6_isLinen 10 = .ok (.aload_n 0, 1) := by decide +kernel
theorem dX6_isLinen_11 : decode cX6_isLinen 11 = .ok (.getfield 19, 3) := by decide +kernel
theorem dX6_isLinen_14 : decode cX6_isLinen 14 = .ok (.iconst 3, 1) := by decide +kernel
theorem dX6_isLinen_15 : decode cX6_isLinen 15 = .ok (.iload_n 1, 1) := by decide +kernel
theorem dX6_isLinen_16 : decode cX6_isLinen 16 = .ok (.iconst 0, 1) := by decide +kernel
theorem dX6_isLinen_17 : decode cX6_isLinen 17 = .ok (.bipush 7, 2) := by decide +kernel
theorem dX6_isLinen_19 : decode cX6_isLinen 19 = .ok (.invokestatic 85, 3) := by decide +kernel
theorem dX6_isLinen_22 : decode cX6_isLinen 22 = .ok (.imul, 1) := by decide +kernel
theorem dX6_isLinen_23 : decode cX6_isLinen 23 = .ok (.iaload, 1) := by decide +kernel
theorem dX6_isLinen_24 : decode cX6_isLinen 24 = .ok (.iconst (-1), 1) := by decide +kernel
theorem dX6_isLinen_25 : decode cX6_isLinen 25 = .ok (.if_icmp .eq 7, 3) := by decide +kernel
theorem dX6_isLinen_28 : decode cX6_isLinen 28 = .ok (.iconst 1, 1) := by decide +kernel
theorem dX6_isLinen_29 : decode cX6_isLinen 29 = .ok (.goto 4, 3) := by decide +kernel
theorem dX6_isLinen_32 : decode cX6_isLinen 32 = .ok (.iconst 0, 1) := by decide +kernel
theorem dX6_isLinen_33 : decode cX6_isLinen 33 = .ok (.ireturn, 1) := by decide +kernel
set_option maxRecDepth 20000 in
theorem ggX6_lying_X6_isLinen : GoodIn wsX6_lying wsX6_isLinen := goodIn_r _ [5, 6, 7, 8, 4, 9, 10, 11, 12, 13, 14, 15, 16, 17, 18, 19, 20, 21, 22, 23, 24, 25, 26, 27, 28, 29, 30, 31, 32, 33, 34, 35, 36, 37, 38, 39, 40, 41, 42, 43, 44, 45, 46, 47, 48, 49, 50] (by decide +kernel) (by decide +kernel)
set_option maxRecDepth 20000 in
theorem gX6_lying_X6_isLinen : GoodIn wsX6_lying (wsV RX6 89 RX6 yX6_isLinen wsX6_isLinen) := goodIn_app (goodIn_of _ (by decide +kernel)) ggX6_lying_X6_isLinen
theorem dX6_lying_0 : decode cX6_lying 0 = .ok (.iconst 0, 1) := by decide +kernel
theorem dX6_lying_1 : decode cX6_lying 1 = .ok (.istore_n 1, 1) := by decide +kernel
theorem dX6_lying_2 : decode cX6_lying 2 = .ok (.iconst 0, 1) := by decide +kernel
theorem dX6_lying_3 : decode cX6_lying 3 = .ok (.istore_n 2, 1) := by decide +kernel
theorem dX6_lying_4 : decode cX6_lying 4 = .ok (.iload_n 2, 1) := by decide +kernel
theorem dX6_lying_5 : decode cX6_lying 5 = .ok (.bipush 8, 2) := by decide +kernel
theorem dX6_lying_7 : decode cX6_lying 7 = .ok (.if_icmp .ge 25, 3) := by decide +kernel
theorem dX6_lying_10 : decode cX6_lying 10 = .ok (.iload_n 1, 1) := by decide +kernel
theorem dX6_lying_11 : decode cX6_lying 11 = .ok (.aload_n 0, 1) := by decide +kernel
theorem dX6_lying_12 : decode cX6_lying 12 = .ok (.iload_n 2, 1) := by decide +kernel
theorem dX6_lying_13 : decode cX6_lying 13 = .ok (.invokevirtual 89, 3) := by decide +kernel
theorem dX6_lying_16 : decode cX6_lying 16 = .ok (.ifCond .eq 7, 3) := by decide +kernel
theorem dX6_lying_19 : decode cX6_lying 19 = .ok (.iconst 1, 1) := by decide +kernel
theorem dX6_lying_20 : decode cX6_lying 20 = .ok (.goto 4, 3) := by decide +kernel
theorem dX6_lying_23 : decode cX6_lying 23 = .ok (.iconst 0, 1) := by decide +kernel
theorem dX6_lying_24 : decode cX6_lying 24 = .ok (.iadd, 1) := by decide +kernel
theorem dX6_lying_25 : decode cX6_lying 25 = .ok (.istore_n 1, 1) := by decide +kernel
theorem dX6_lying_26 : decode cX6_lying 26 = .ok (.iinc 2 1, 3) := by decide +kernel
theorem dX6_lying_29 : decode cX6_lying 29 = .ok (.goto (-25), 3) := by decide +kernel
theorem dX6_lying_32 : decode cX6_lying 32 = .ok (.iload_n 1, 1) := by decide +kernel
theorem dX6_lying_33 : decode cX6_lying 33 = .ok (.ireturn, 1) := by decide +kernel
theorem dX6_verdictOf_0 : decode cX6_verdictOf 0 = .ok (.iconst 0, 1) := by decide +kernel
theorem dX6_verdictOf_1 : decode cX6_verdictOf 1 = .ok (.istore_n 2, 1) := by decide +kernel
theorem dX6_verdictOf_2 : decode cX6_verdictOf 2 = .ok (.iconst 0, 1) := by decide +kernel
theorem dX6_verdictOf_3 : decode cX6_verdictOf 3 = .ok (.istore_n 3, 1) := by decide +kernel
theorem dX6_verdictOf_4 : decode cX6_verdictOf 4 = .ok (.iload_n 3, 1) := by decide +kernel
theorem dX6_verdictOf_5 : decode cX6_verdictOf 5 = .ok (.bipush 10, 2) := by decide +kernel
theorem dX6_verdictOf_7 : decode cX6_verdictOf 7 = .ok (.if_icmp .ge 31, 3) := by decide +kernel
theorem dX6_verdictOf_10 : decode cX6_verdictOf 10 = .ok (.iload_n 2, 1) := by decide +kernel
theorem dX6_verdictOf_11 : decode cX6_verdictOf 11 = .ok (.iload_n 1, 1) := by decide +kernel
theorem dX6_verdictOf_12 : decode cX6_verdictOf 12 = .ok (.iload_n 3, 1) := by decide +kernel
theorem dX6_verdictOf_13 : decode cX6_verdictOf 13 = .ok (.ishr, 1) := by decide +kernel
theorem dX6_verdictOf_14 : decode cX6_verdictOf 14 = .ok (.iconst 1, 1) := by decide +kernel
theorem dX6_verdictOf_15 : decode cX6_verdictOf 15 = .ok (.iand, 1) := by decide +kernel
theorem dX6_verdictOf_16 : decode cX6_verdictOf 16 = .ok (.iconst 1, 1) := by decide +kernel
theorem dX6_verdictOf_17 : decode cX6_verdictOf 17 = .ok (.if_icmp .ne 12, 3) := by decide +kernel
theorem dX6_verdictOf_20 : decode cX6_verdictOf 20 = .ok (.aload_n 0, 1) := by decide +kernel
theorem dX6_verdictOf_21 : decode cX6_verdictOf 21 = .ok (.getfield 22, 3) := by decide +kernel
theorem dX6_verdictOf_24 : decode cX6_verdictOf 24 = .ok (.iload_n 3, 1) := by decide +kernel
theorem dX6_verdictOf_25 : decode cX6_verdictOf 25 = .ok (.iaload, 1) := by decide +kernel
theorem dX6_verdictOf_26 : decode cX6_verdictOf 26 = .ok (.goto 4, 3) := by decide +kernel
theorem dX6_verdictOf_29 : decode cX6_verdictOf 29 = .ok (.iconst 0, 1) := by decide +kernel
theorem dX6_verdictOf_30 : decode cX6_verdictOf 30 = .ok (.iadd, 1) := by decide +kernel
theorem dX6_verdictOf_31 : decode cX6_verdictOf 31 = .ok (.istore_n 2, 1) := by decide +kernel
theorem dX6_verdictOf_32 : decode cX6_verdictOf 32 = .ok (.iinc 3 1, 3) := by decide +kernel
theorem dX6_verdictOf_35 : decode cX6_verdictOf 35 = .ok (.goto (-31), 3) := by decide +kernel
theorem dX6_verdictOf_38 : decode cX6_verdictOf 38 = .ok (.iload_n 2, 1) := by decide +kernel
theorem dX6_verdictOf_39 : decode cX6_verdictOf 39 = .ok (.ireturn, 1) := by decide +kernel
set_option maxRecDepth 20000 in
theorem ggX6_count_X6_lying : GoodIn wsX6_count wsX6_lying := goodIn_r _ [10, 11, 12, 13, 9, 14, 15, 16, 17, 18, 19, 20, 21, 22, 23, 24, 25, 26, 27, 28, 29, 30, 31, 32, 33, 34, 35, 36, 37, 38, 39, 40, 41, 42, 43, 44, 45, 46, 47, 48, 49, 50, 51, 52, 53, 54, 55, 56, 57, 58, 59] (by decide +kernel) (by decide +kernel)
set_option maxRecDepth 20000 in
theorem gX6_count_X6_lying : GoodIn wsX6_count (wsV RX6 96 RX6 yX6_lying wsX6_lying) := goodIn_app (goodIn_of _ (by decide +kernel)) ggX6_count_X6_lying
theorem dX6_count_0 : decode cX6_count 0 = .ok (.iload_n 1, 1) := by decide +kernel
theorem dX6_count_1 : decode cX6_count 1 = .ok (.tableswitch 69 0 5 #[39, 44, 49, 54, 59, 64], 39) := by decide +kernel
theorem dX6_count_40 : decode cX6_count 40 = .ok (.aload_n 0, 1) := by decide +kernel
theorem dX6_count_41 : decode cX6_count 41 = .ok (.getfield 78, 3) := by decide +kernel
theorem dX6_count_44 : decode cX6_count 44 = .ok (.ireturn, 1) := by decide +kernel
theorem dX6_count_45 : decode cX6_count 45 = .ok (.aload_n 0, 1) := by decide +kernel
theorem dX6_count_46 : decode cX6_count 46 = .ok (.getfield 93, 3) := by decide +kernel
theorem dX6_count_49 : decode cX6_count 49 = .ok (.ireturn, 1) := by decide +kernel
theorem dX6_count_50 : decode cX6_count 50 = .ok (.aload_n 0, 1) := by decide +kernel
theorem dX6_count_51 : decode cX6_count 51 = .ok (.invokevirtual 96, 3) := by decide +kernel
theorem dX6_count_54 : decode cX6_count 54 = .ok (.ireturn, 1) := by decide +kernel
theorem dX6_count_55 : decode cX6_count 55 = .ok (.aload_n 0, 1) := by decide +kernel
theorem dX6_count_56 : decode cX6_count 56 = .ok (.getfield 99, 3) := by decide +kernel
theorem dX6_count_59 : decode cX6_count 59 = .ok (.ireturn, 1) := by decide +kernel
theorem dX6_count_60 : decode cX6_count 60 = .ok (.aload_n 0, 1) := by decide +kernel
theorem dX6_count_61 : decode cX6_count 61 = .ok (.getfield 102, 3) := by decide +kernel
theorem dX6_count_64 : decode cX6_count 64 = .ok (.ireturn, 1) := by decide +kernel
theorem dX6_count_65 : decode cX6_count 65 = .ok (.aload_n 0, 1) := by decide +kernel
theorem dX6_count_66 : decode cX6_count 66 = .ok (.getfield 70, 3) := by decide +kernel
theorem dX6_count_69 : decode cX6_count 69 = .ok (.ireturn, 1) := by decide +kernel
theorem dX6_count_70 : decode cX6_count 70 = .ok (.bipush (-2), 2) := by decide +kernel
theorem dX6_count_72 : decode cX6_count 72 = .ok (.ireturn, 1) := by decide +kernel
set_option maxRecDepth 20000 in
theorem ggX6_isThere_X6_in : GoodIn wsX6_isThere wsX6_in := goodIn_r _ [4] (by decide +kernel) (by decide +kernel)
set_option maxRecDepth 20000 in
theorem gX6_isThere_X6_in : GoodIn wsX6_isThere (va_wsS RX6 81 yX6_in wsX6_in) := goodIn_app (goodIn_of _ (by decide +kernel)) ggX6_isThere_X6_in
theorem dX6_isThere_0 : decode cX6_isThere 0 = .ok (.iload_n 0, 1) := by decide +kernel
theorem dX6_isThere_1 : decode cX6_isThere 1 = .ok (.ifCond .ne 13, 3) := by decide +kernel
theorem dX6_isThere_4 : decode cX6_isThere 4 = .ok (.iload_n 1, 1) := by decide +kernel
theorem dX6_isThere_5 : decode cX6_isThere 5 = .ok (.iconst 0, 1) := by decide +kernel
theorem dX6_isThere_6 : decode cX6_isThere 6 = .ok (.bipush 9, 2) := by decide +kernel
theorem dX6_isThere_8 : decode cX6_isThere 8 = .ok (.invokestatic 81, 3) := by decide +kernel
theorem dX6_isThere_11 : decode cX6_isThere 11 = .ok (.goto 22, 3) := by decide +kernel
theorem dX6_isThere_14 : decode cX6_isThere 14 = .ok (.iload_n 0, 1) := by decide +kernel
theorem dX6_isThere_15 : decode cX6_isThere 15 = .ok (.iconst 1, 1) := by decide +kernel
theorem dX6_isThere_16 : decode cX6_isThere 16 = .ok (.if_icmp .ne 12, 3) := by decide +kernel
theorem dX6_isThere_19 : decode cX6_isThere 19 = .ok (.iload_n 1, 1) := by decide +kernel
theorem dX6_isThere_20 : decode cX6_isThere 20 = .ok (.iconst 0, 1) := by decide +kernel
theorem dX6_isThere_21 : decode cX6_isThere 21 = .ok (.iconst 5, 1) := by decide +kernel
theorem dX6_isThere_22 : decode cX6_isThere 22 = .ok (.invokestatic 81, 3) := by decide +kernel
theorem dX6_isThere_25 : decode cX6_isThere 25 = .ok (.ifCond .eq 7, 3) := by decide +kernel
theorem dX6_isThere_28 : decode cX6_isThere 28 = .ok (.iconst 1, 1) := by decide +kernel
theorem dX6_isThere_29 : decode cX6_isThere 29 = .ok (.goto 4, 3) := by decide +kernel
theorem dX6_isThere_32 : decode cX6_isThere 32 = .ok (.iconst 0, 1) := by decide +kernel
theorem dX6_isThere_33 : decode cX6_isThere 33 = .ok (.ireturn, 1) := by decide +kernel
set_option maxRecDepth 20000 in
theorem ggX6_court_X6_in : GoodIn wsX6_court wsX6_in := goodIn_r _ [8] (by decide +kernel) (by decide +kernel)
set_option maxRecDepth 20000 in
theorem gX6_court_X6_in : GoodIn wsX6_court (va_wsS RX6 81 yX6_in wsX6_in) := goodIn_app (goodIn_of _ (by decide +kernel)) ggX6_court_X6_in
set_option maxRecDepth 20000 in
theorem ggX6_court_X6_isThere : GoodIn wsX6_court wsX6_isThere := goodIn_r _ [11, 5, 6, 7, 8] (by decide +kernel) (by decide +kernel)
set_option maxRecDepth 20000 in
theorem gX6_court_X6_isThere : GoodIn wsX6_court (va_wsS RX6 105 yX6_isThere wsX6_isThere) := goodIn_app (goodIn_of _ (by decide +kernel)) ggX6_court_X6_isThere
theorem dX6_court_0 : decode cX6_court 0 = .ok (.iload_n 1, 1) := by decide +kernel
theorem dX6_court_1 : decode cX6_court 1 = .ok (.iconst 0, 1) := by decide +kernel
theorem dX6_court_2 : decode cX6_court 2 = .ok (.iconst 3, 1) := by decide +kernel
theorem dX6_court_3 : decode cX6_court 3 = .ok (.invokestatic 81, 3) := by decide +kernel
theorem dX6_court_6 : decode cX6_court 6 = .ok (.ifCond .eq 11, 3) := by decide +kernel
theorem dX6_court_9 : decode cX6_court 9 = .ok (.iload_n 1, 1) := by decide +kernel
theorem dX6_court_10 : decode cX6_court 10 = .ok (.iload_n 2, 1) := by decide +kernel
theorem dX6_court_11 : decode cX6_court 11 = .ok (.invokestatic 105, 3) := by decide +kernel
theorem dX6_court_14 : decode cX6_court 14 = .ok (.ifCond .ne 7, 3) := by decide +kernel
theorem dX6_court_17 : decode cX6_court 17 = .ok (.sipush (-5000), 3) := by decide +kernel
theorem dX6_court_20 : decode cX6_court 20 = .ok (.ireturn, 1) := by decide +kernel
theorem dX6_court_21 : decode cX6_court 21 = .ok (.iload_n 1, 1) := by decide +kernel
theorem dX6_court_22 : decode cX6_court 22 = .ok (.iconst 2, 1) := by decide +kernel
theorem dX6_court_23 : decode cX6_court 23 = .ok (.if_icmp .ge 8, 3) := by decide +kernel
theorem dX6_court_26 : decode cX6_court 26 = .ok (.bipush 99, 2) := by decide +kernel
theorem dX6_court_28 : decode cX6_court 28 = .ok (.goto 17, 3) := by decide +kernel
theorem dX6_court_31 : decode cX6_court 31 = .ok (.iload_n 1, 1) := by decide +kernel
theorem dX6_court_32 : decode cX6_court 32 = .ok (.iconst 2, 1) := by decide +kernel
theorem dX6_court_33 : decode cX6_court 33 = .ok (.if_icmp .ne 9, 3) := by decide +kernel
theorem dX6_court_36 : decode cX6_court 36 = .ok (.sipush 999, 3) := by decide +kernel
theorem dX6_court_39 : decode cX6_court 39 = .ok (.goto 6, 3) := by decide +kernel
theorem dX6_court_42 : decode cX6_court 42 = .ok (.sipush 1023, 3) := by decide +kernel
theorem dX6_court_45 : decode cX6_court 45 = .ok (.istore 4, 2) := by decide +kernel
theorem dX6_court_47 : decode cX6_court 47 = .ok (.iload_n 3, 1) := by decide +kernel
theorem dX6_court_48 : decode cX6_court 48 = .ok (.iload_n 1, 1) := by decide +kernel
theorem dX6_court_49 : decode cX6_court 49 = .ok (.ifCond .ne 8, 3) := by decide +kernel
theorem dX6_court_52 : decode cX6_court 52 = .ok (.bipush (-99), 2) := by decide +kernel
theorem dX6_court_54 : decode cX6_court 54 = .ok (.goto 4, 3) := by decide +kernel
theorem dX6_court_57 : decode cX6_court 57 = .ok (.iconst 0, 1) := by decide +kernel
theorem dX6_court_58 : decode cX6_court 58 = .ok (.iload 4, 2) := by decide +kernel
theorem dX6_court_60 : decode cX6_court 60 = .ok (.invokestatic 81, 3) := by decide +kernel
theorem dX6_court_63 : decode cX6_court 63 = .ok (.ifCond .ne 7, 3) := by decide +kernel
theorem dX6_court_66 : decode cX6_court 66 = .ok (.sipush (-7000), 3) := by decide +kernel
theorem dX6_court_69 : decode cX6_court 69 = .ok (.ireturn, 1) := by decide +kernel
theorem dX6_court_70 : decode cX6_court 70 = .ok (.iconst 0, 1) := by decide +kernel
theorem dX6_court_71 : decode cX6_court 71 = .ok (.istore 5, 2) := by decide +kernel
theorem dX6_court_73 : decode cX6_court 73 = .ok (.iload_n 1, 1) := by decide +kernel
theorem dX6_court_74 : decode cX6_court 74 = .ok (.tableswitch 76 0 2 #[26, 44, 62], 26) := by decide +kernel
theorem dX6_court_100 : decode cX6_court 100 = .ok (.aload_n 0, 1) := by decide +kernel
theorem dX6_court_101 : decode cX6_court 101 = .ok (.getfield 22, 3) := by decide +kernel
theorem dX6_court_104 : decode cX6_court 104 = .ok (.iload_n 2, 1) := by decide +kernel
theorem dX6_court_105 : decode cX6_court 105 = .ok (.iaload, 1) := by decide +kernel
theorem dX6_court_106 : decode cX6_court 106 = .ok (.istore 5, 2) := by decide +kernel
theorem dX6_court_108 : decode cX6_court 108 = .ok (.aload_n 0, 1) := by decide +kernel
theorem dX6_court_109 : decode cX6_court 109 = .ok (.getfield 22, 3) := by decide +kernel
theorem dX6_court_112 : decode cX6_court 112 = .ok (.iload_n 2, 1) := by decide +kernel
theorem dX6_court_113 : decode cX6_court 113 = .ok (.iload_n 3, 1) := by decide +kernel
theorem dX6_court_114 : decode cX6_court 114 = .ok (.iastore, 1) := by decide +kernel
theorem dX6_court_115 : decode cX6_court 115 = .ok (.goto 46, 3) := by decide +kernel
theorem dX6_court_118 : decode cX6_court 118 = .ok (.aload_n 0, 1) := by decide +kernel
theorem dX6_court_119 : decode cX6_court 119 = .ok (.getfield 25, 3) := by decide +kernel
theorem dX6_court_122 : decode cX6_court 122 = .ok (.iload_n 2, 1) := by decide +kernel
theorem dX6_court_123 : decode cX6_court 123 = .ok (.iaload, 1) := by decide +kernel
theorem dX6_court_124 : decode cX6_court 124 = .ok (.istore 5, 2) := by decide +kernel
theorem dX6_court_126 : decode cX6_court 126 = .ok (.aload_n 0, 1) := by decide +kernel
theorem dX6_court_127 : decode cX6_court 127 = .ok (.getfield 25, 3) := by decide +kernel
theorem dX6_court_130 : decode cX6_court 130 = .ok (.iload_n 2, 1) := by decide +kernel
theorem dX6_court_131 : decode cX6_court 131 = .ok (.iload_n 3, 1) := by decide +kernel
theorem dX6_court_132 : decode cX6_court 132 = .ok (.iastore, 1) := by decide +kernel
theorem dX6_court_133 : decode cX6_court 133 = .ok (.goto 28, 3) := by decide +kernel
theorem dX6_court_136 : decode cX6_court 136 = .ok (.aload_n 0, 1) := by decide +kernel
theorem dX6_court_137 : decode cX6_court 137 = .ok (.getfield 93, 3) := by decide +kernel
theorem dX6_court_140 : decode cX6_court 140 = .ok (.istore 5, 2) := by decide +kernel
theorem dX6_court_142 : decode cX6_court 142 = .ok (.aload_n 0, 1) := by decide +kernel
theorem dX6_court_143 : decode cX6_court 143 = .ok (.iload_n 3, 1) := by decide +kernel
theorem dX6_court_144 : decode cX6_court 144 = .ok (.putfield 93, 3) := by decide +kernel
theorem dX6_court_147 : decode cX6_court 147 = .ok (.goto 14, 3) := by decide +kernel
theorem dX6_court_150 : decode cX6_court 150 = .ok (.aload_n 0, 1) := by decide +kernel
theorem dX6_court_151 : decode cX6_court 151 = .ok (.getfield 109, 3) := by decide +kernel
theorem dX6_court_154 : decode cX6_court 154 = .ok (.istore 5, 2) := by decide +kernel
theorem dX6_court_156 : decode cX6_court 156 = .ok (.aload_n 0, 1) := by decide +kernel
theorem dX6_court_157 : decode cX6_court 157 = .ok (.iload_n 3, 1) := by decide +kernel
theorem dX6_court_158 : decode cX6_court 158 = .ok (.putfield 109, 3) := by decide +kernel
theorem dX6_court_161 : decode cX6_court 161 = .ok (.iload 5, 2) := by decide +kernel
theorem dX6_court_163 : decode cX6_court 163 = .ok (.ireturn, 1) := by decide +kernel
set_option maxRecDepth 20000 in
theorem ggX6_bench_X6_in : GoodIn wsX6_bench wsX6_in := goodIn_r _ [8] (by decide +kernel) (by decide +kernel)
set_option maxRecDepth 20000 in
theorem gX6_bench_X6_in : GoodIn wsX6_bench (va_wsS RX6 81 yX6_in wsX6_in) := goodIn_app (goodIn_of _ (by decide +kernel)) ggX6_bench_X6_in
set_option maxRecDepth 20000 in
theorem ggX6_bench_X6_isThere : GoodIn wsX6_bench wsX6_isThere := goodIn_r _ [11, 5, 6, 7, 8] (by decide +kernel) (by decide +kernel)
set_option maxRecDepth 20000 in
theorem gX6_bench_X6_isThere : GoodIn wsX6_bench (va_wsS RX6 105 yX6_isThere wsX6_isThere) := goodIn_app (goodIn_of _ (by decide +kernel)) ggX6_bench_X6_isThere
set_option maxRecDepth 20000 in
theorem ggX6_bench_X6_verdictOf : GoodIn wsX6_bench wsX6_verdictOf := goodIn_r _ [15, 1, 16, 17, 18, 19, 20, 21, 22, 23, 24, 25, 26, 27, 28, 29, 30, 31, 32, 33, 34, 35, 36, 37, 38, 39, 40, 41, 42, 43, 44, 45, 46, 47, 48, 49, 50, 51, 52, 53] (by decide +kernel) (by decide +kernel)
set_option maxRecDepth 20000 in
theorem gX6_bench_X6_verdictOf : GoodIn wsX6_bench (wsV RX6 112 RX6 yX6_verdictOf wsX6_verdictOf) := goodIn_app (goodIn_of _ (by decide +kernel)) ggX6_bench_X6_verdictOf
theorem dX6_bench_0 : decode cX6_bench 0 = .ok (.iload_n 1, 1) := by decide +kernel
theorem dX6_bench_1 : decode cX6_bench 1 = .ok (.iconst 0, 1) := by decide +kernel
theorem dX6_bench_2 : decode cX6_bench 2 = .ok (.iconst 4, 1) := by decide +kernel
theorem dX6_bench_3 : decode cX6_bench 3 = .ok (.invokestatic 81, 3) := by decide +kernel
theorem dX6_bench_6 : decode cX6_bench 6 = .ok (.ifCond .eq 11, 3) := by decide +kernel
theorem dX6_bench_9 : decode cX6_bench 9 = .ok (.iload_n 1, 1) := by decide +kernel
theorem dX6_bench_10 : decode cX6_bench 10 = .ok (.iload_n 2, 1) := by decide +kernel
theorem dX6_bench_11 : decode cX6_bench 11 = .ok (.invokestatic 105, 3) := by decide +kernel
theorem dX6_bench_14 : decode cX6_bench 14 = .ok (.ifCond .ne 7, 3) := by decide +kernel
theorem dX6_bench_17 : decode cX6_bench 17 = .ok (.sipush (-5000), 3) := by decide +kernel
theorem dX6_bench_20 : decode cX6_bench 20 = .ok (.ireturn, 1) := by decide +kernel
theorem dX6_bench_21 : decode cX6_bench 21 = .ok (.iload_n 1, 1) := by decide +kernel
theorem dX6_bench_22 : decode cX6_bench 22 = .ok (.tableswitch 58 0 3 #[30, 37, 44, 49], 30) := by decide +kernel
theorem dX6_bench_52 : decode cX6_bench 52 = .ok (.aload_n 0, 1) := by decide +kernel
theorem dX6_bench_53 : decode cX6_bench 53 = .ok (.getfield 22, 3) := by decide +kernel
theorem dX6_bench_56 : decode cX6_bench 56 = .ok (.iload_n 2, 1) := by decide +kernel
theorem dX6_bench_57 : decode cX6_bench 57 = .ok (.iaload, 1) := by decide +kernel
theorem dX6_bench_58 : decode cX6_bench 58 = .ok (.ireturn, 1) := by decide +kernel
theorem dX6_bench_59 : decode cX6_bench 59 = .ok (.aload_n 0, 1) := by decide +kernel
theorem dX6_bench_60 : decode cX6_bench 60 = .ok (.getfield 25, 3) := by decide +kernel
theorem dX6_bench_63 : decode cX6_bench 63 = .ok (.iload_n 2, 1) := by decide +kernel
theorem dX6_bench_64 : decode cX6_bench 64 = .ok (.iaload, 1) := by decide +kernel
theorem dX6_bench_65 : decode cX6_bench 65 = .ok (.ireturn, 1) := by decide +kernel
theorem dX6_bench_66 : decode cX6_bench 66 = .ok (.aload_n 0, 1) := by decide +kernel
theorem dX6_bench_67 : decode cX6_bench 67 = .ok (.getfield 109, 3) := by decide +kernel
theorem dX6_bench_70 : decode cX6_bench 70 = .ok (.ireturn, 1) := by decide +kernel
theorem dX6_bench_71 : decode cX6_bench 71 = .ok (.aload_n 0, 1) := by decide +kernel
theorem dX6_bench_72 : decode cX6_bench 72 = .ok (.aload_n 0, 1) := by decide +kernel
theorem dX6_bench_73 : decode cX6_bench 73 = .ok (.getfield 109, 3) := by decide +kernel
theorem dX6_bench_76 : decode cX6_bench 76 = .ok (.invokevirtual 112, 3) := by decide +kernel
theorem dX6_bench_79 : decode cX6_bench 79 = .ok (.ireturn, 1) := by decide +kernel
theorem dX6_bench_80 : decode cX6_bench 80 = .ok (.aload_n 0, 1) := by decide +kernel
theorem dX6_bench_81 : decode cX6_bench 81 = .ok (.getfield 93, 3) := by decide +kernel
theorem dX6_bench_84 : decode cX6_bench 84 = .ok (.bipush 6, 2) := by decide +kernel
theorem dX6_bench_86 : decode cX6_bench 86 = .ok (.irem, 1) := by decide +kernel
theorem dX6_bench_87 : decode cX6_bench 87 = .ok (.ireturn, 1) := by decide +kernel
set_option maxRecDepth 20000 in
theorem ggX6_isByte_X6_in : GoodIn wsX6_isByte wsX6_in := goodIn_r _ [4] (by decide +kernel) (by decide +kernel)
set_option maxRecDepth 20000 in
theorem gX6_isByte_X6_in : GoodIn wsX6_isByte (va_wsS RX6 81 yX6_in wsX6_in) := goodIn_app (goodIn_of _ (by decide +kernel)) ggX6_isByte_X6_in
theorem dX6_isByte_0 : decode cX6_isByte 0 = .ok (.iload_n 0, 1) := by decide +kernel
theorem dX6_isByte_1 : decode cX6_isByte 1 = .ok (.iconst 0, 1) := by decide +kernel
theorem dX6_isByte_2 : decode cX6_isByte 2 = .ok (.sipush 255, 3) := by decide +kernel
theorem dX6_isByte_5 : decode cX6_isByte 5 = .ok (.invokestatic 81, 3) := by decide +kernel
theorem dX6_isByte_8 : decode cX6_isByte 8 = .ok (.ireturn, 1) := by decide +kernel
set_option maxRecDepth 20000 in
theorem ggX6_feed_X6_in : GoodIn wsX6_feed wsX6_in := goodIn_r _ [6] (by decide +kernel) (by decide +kernel)
set_option maxRecDepth 20000 in
theorem gX6_feed_X6_in : GoodIn wsX6_feed (va_wsS RX6 81 yX6_in wsX6_in) := goodIn_app (goodIn_of _ (by decide +kernel)) ggX6_feed_X6_in
set_option maxRecDepth 20000 in
theorem ggX6_feed_X6_isByte : GoodIn wsX6_feed wsX6_isByte := goodIn_r _ [9, 3, 4, 5, 6] (by decide +kernel) (by decide +kernel)
set_option maxRecDepth 20000 in
theorem gX6_feed_X6_isByte : GoodIn wsX6_feed (va_wsS RX6 116 yX6_isByte wsX6_isByte) := goodIn_app (goodIn_of _ (by decide +kernel)) ggX6_feed_X6_isByte
theorem dX6_feed_0 : decode cX6_feed 0 = .ok (.iload_n 1, 1) := by decide +kernel
theorem dX6_feed_1 : decode cX6_feed 1 = .ok (.iconst 1, 1) := by decide +kernel
theorem dX6_feed_2 : decode cX6_feed 2 = .ok (.iconst 5, 1) := by decide +kernel
theorem dX6_feed_3 : decode cX6_feed 3 = .ok (.invokestatic 81, 3) := by decide +kernel
theorem dX6_feed_6 : decode cX6_feed 6 = .ok (.ifCond .eq 41, 3) := by decide +kernel
theorem dX6_feed_9 : decode cX6_feed 9 = .ok (.iload_n 2, 1) := by decide +kernel
theorem dX6_feed_10 : decode cX6_feed 10 = .ok (.invokestatic 116, 3) := by decide +kernel
theorem dX6_feed_13 : decode cX6_feed 13 = .ok (.ifCond .eq 34, 3) := by decide +kernel
theorem dX6_feed_16 : decode cX6_feed 16 = .ok (.iload_n 3, 1) := by decide +kernel
theorem dX6_feed_17 : decode cX6_feed 17 = .ok (.invokestatic 116, 3) := by decide +kernel
theorem dX6_feed_20 : decode cX6_feed 20 = .ok (.ifCond .eq 27, 3) := by decide +kernel
theorem dX6_feed_23 : decode cX6_feed 23 = .ok (.iload 4, 2) := by decide +kernel
theorem dX6_feed_25 : decode cX6_feed 25 = .ok (.invokestatic 116, 3) := by decide +kernel
theorem dX6_feed_28 : decode cX6_feed 28 = .ok (.ifCond .eq 19, 3) := by decide +kernel
theorem dX6_feed_31 : decode cX6_feed 31 = .ok (.iload 5, 2) := by decide +kernel
theorem dX6_feed_33 : decode cX6_feed 33 = .ok (.invokestatic 116, 3) := by decide +kernel
theorem dX6_feed_36 : decode cX6_feed 36 = .ok (.ifCond .eq 11, 3) := by decide +kernel
theorem dX6_feed_39 : decode cX6_feed 39 = .ok (.iload 6, 2) := by decide +kernel
theorem dX6_feed_41 : decode cX6_feed 41 = .ok (.invokestatic 116, 3) := by decide +kernel
theorem dX6_feed_44 : decode cX6_feed 44 = .ok (.ifCond .ne 6, 3) := by decide +kernel
theorem dX6_feed_47 : decode cX6_feed 47 = .ok (.bipush (-2), 2) := by decide +kernel
theorem dX6_feed_49 : decode cX6_feed 49 = .ok (.ireturn, 1) := by decide +kernel
theorem dX6_feed_50 : decode cX6_feed 50 = .ok (.aload_n 0, 1) := by decide +kernel
theorem dX6_feed_51 : decode cX6_feed 51 = .ok (.getfield 70, 3) := by decide +kernel
theorem dX6_feed_54 : decode cX6_feed 54 = .ok (.iload_n 1, 1) := by decide +kernel
theorem dX6_feed_55 : decode cX6_feed 55 = .ok (.iadd, 1) := by decide +kernel
theorem dX6_feed_56 : decode cX6_feed 56 = .ok (.sipush 160, 3) := by decide +kernel
theorem dX6_feed_59 : decode cX6_feed 59 = .ok (.if_icmp .le 6, 3) := by decide +kernel
theorem dX6_feed_62 : decode cX6_feed 62 = .ok (.bipush (-4), 2) := by decide +kernel
theorem dX6_feed_64 : decode cX6_feed 64 = .ok (.ireturn, 1) := by decide +kernel
theorem dX6_feed_65 : decode cX6_feed 65 = .ok (.iconst 0, 1) := by decide +kernel
theorem dX6_feed_66 : decode cX6_feed 66 = .ok (.istore 7, 2) := by decide +kernel
theorem dX6_feed_68 : decode cX6_feed 68 = .ok (.iload 7, 2) := by decide +kernel
theorem dX6_feed_70 : decode cX6_feed 70 = .ok (.iload_n 1, 1) := by decide +kernel
theorem dX6_feed_71 : decode cX6_feed 71 = .ok (.if_icmp .ge 71, 3) := by decide +kernel
theorem dX6_feed_74 : decode cX6_feed 74 = .ok (.aload_n 0, 1) := by decide +kernel
theorem dX6_feed_75 : decode cX6_feed 75 = .ok (.getfield 28, 3) := by decide +kernel
theorem dX6_feed_78 : decode cX6_feed 78 = .ok (.aload_n 0, 1) := by decide +kernel
theorem dX6_feed_79 : decode cX6_feed 79 = .ok (.getfield 70, 3) := by decide +kernel
theorem dX6_feed_82 : decode cX6_feed 82 = .ok (.iload 7, 2) := by decide +kernel
theorem dX6_feed_84 : decode cX6_feed 84 = .ok (.ifCond .ne 7, 3) := by decide +kernel
theorem dX6_feed_87 : decode cX6_feed 87 = .ok (.iload_n 2, 1) := by decide +kernel
theorem dX6_feed_88 : decode cX6_feed 88 = .ok (.goto 37, 3) := by decide +kernel
theorem dX6_feed_91 : decode cX6_feed 91 = .ok (.iload 7, 2) := by decide +kernel
theorem dX6_feed_93 : decode cX6_feed 93 = .ok (.iconst 1, 1) := by decide +kernel
theorem dX6_feed_94 : decode cX6_feed 94 = .ok (.if_icmp .ne 7, 3) := by decide +kernel
theorem dX6_feed_97 : decode cX6_feed 97 = .ok (.iload_n 3, 1) := by decide +kernel
theorem dX6_feed_98 : decode cX6_feed 98 = .ok (.goto 27, 3) := by decide +kernel
theorem dX6_feed_101 : decode cX6_feed 101 = .ok (.iload 7, 2) := by decide +kernel
theorem dX6_feed_103 : decode cX6_feed 103 = .ok (.iconst 2, 1) := by decide +kernel
theorem dX6_feed_104 : decode cX6_feed 104 = .ok (.if_icmp .ne 8, 3) := by decide +kernel
theorem dX6_feed_107 : decode cX6_feed 107 = .ok (.iload 4, 2) := by decide +kernel
theorem dX6_feed_109 : decode cX6_feed 109 = .ok (.goto 16, 3) := by decide +kernel
theorem dX6_feed_112 : decode cX6_feed 112 = .ok (.iload 7, 2) := by decide +kernel
theorem dX6_feed_114 : decode cX6_feed 114 = .ok (.iconst 3, 1) := by decide +kernel
theorem dX6_feed_115 : decode cX6_feed 115 = .ok (.if_icmp .ne 8, 3) := by decide +kernel
theorem dX6_feed_118 : decode cX6_feed 118 = .ok (.iload 5, 2) := by decide +kernel
theorem dX6_feed_120 : decode cX6_feed 120 = .ok (.goto 5, 3) := by decide +kernel
theorem dX6_feed_123 : decode cX6_feed 123 = .ok (.iload 6, 2) := by decide +kernel
theorem dX6_feed_125 : decode cX6_feed 125 = .ok (.iastore, 1) := by decide +kernel
theorem dX6_feed_126 : decode cX6_feed 126 = .ok (.aload_n 0, 1) := by decide +kernel
theorem dX6_feed_127 : decode cX6_feed 127 = .ok (.dup, 1) := by decide +kernel
theorem dX6_feed_128 : decode cX6_feed 128 = .ok (.getfield 70, 3) := by decide +kernel
theorem dX6_feed_131 : decode cX6_feed 131 = .ok (.iconst 1, 1) := by decide +kernel
theorem dX6_feed_132 : decode cX6_feed 132 = .ok (.iadd, 1) := by decide +kernel
theorem dX6_feed_133 : decode cX6_feed 133 = .ok (.putfield 70, 3) := by decide +kernel
theorem dX6_feed_136 : decode cX6_feed 136 = .ok (.iinc 7 1, 3) := by decide +kernel
theorem dX6_feed_139 : decode cX6_feed 139 = .ok (.goto (-71), 3) := by decide +kernel
theorem dX6_feed_142 : decode cX6_feed 142 = .ok (.aload_n 0, 1) := by decide +kernel
theorem dX6_feed_143 : decode cX6_feed 143 = .ok (.getfield 70, 3) := by decide +kernel
theorem dX6_feed_146 : decode cX6_feed 146 = .ok (.ireturn, 1) := by decide +kernel
theorem dX6_wordFrom_0 : decode cX6_wordFrom 0 = .ok (.iconst 0, 1) := by decide +kernel
theorem dX6_wordFrom_1 : decode cX6_wordFrom 1 = .ok (.istore_n 3, 1) := by decide +kernel
theorem dX6_wordFrom_2 : decode cX6_wordFrom 2 = .ok (.iload_n 3, 1) := by decide +kernel
theorem dX6_wordFrom_3 : decode cX6_wordFrom 3 = .ok (.bipush 12, 2) := by decide +kernel
theorem dX6_wordFrom_5 : decode cX6_wordFrom 5 = .ok (.if_icmp .ge 96, 3) := by decide +kernel
theorem dX6_wordFrom_8 : decode cX6_wordFrom 8 = .ok (.iload_n 2, 1) := by decide +kernel
theorem dX6_wordFrom_9 : decode cX6_wordFrom 9 = .ok (.iload_n 1, 1) := by decide +kernel
theorem dX6_wordFrom_10 : decode cX6_wordFrom 10 = .ok (.isub, 1) := by decide +kernel
theorem dX6_wordFrom_11 : decode cX6_wordFrom 11 = .ok (.bipush 8, 2) := by decide +kernel
theorem dX6_wordFrom_13 : decode cX6_wordFrom 13 = .ok (.if_icmp .gt 7, 3) := by decide +kernel
theorem dX6_wordFrom_16 : decode cX6_wordFrom 16 = .ok (.iconst 1, 1) := by decide +kernel
theorem dX6_wordFrom_17 : decode cX6_wordFrom 17 = .ok (.goto 4, 3) := by decide +kernel
theorem dX6_wordFrom_20 : decode cX6_wordFrom 20 = .ok (.iconst 0, 1) := by decide +kernel
theorem dX6_wordFrom_21 : decode cX6_wordFrom 21 = .ok (.istore 4, 2) := by decide +kernel
theorem dX6_wordFrom_23 : decode cX6_wordFrom 23 = .ok (.iconst 0, 1) := by decide +kernel
theorem dX6_wordFrom_24 : decode cX6_wordFrom 24 = .ok (.istore 5, 2) := by decide +kernel
theorem dX6_wordFrom_26 : decode cX6_wordFrom 26 = .ok (.iload 5, 2) := by decide +kernel
theorem dX6_wordFrom_28 : decode cX6_wordFrom 28 = .ok (.bipush 8, 2) := by decide +kernel
theorem dX6_wordFrom_30 : decode cX6_wordFrom 30 = .ok (.if_icmp .ge 58, 3) := by decide +kernel
theorem dX6_wordFrom_33 : decode cX6_wordFrom 33 = .ok (.iload 4, 2) := by decide +kernel
theorem dX6_wordFrom_35 : decode cX6_wordFrom 35 = .ok (.ifCond .eq 53, 3) := by decide +kernel
theorem dX6_wordFrom_38 : decode cX6_wordFrom 38 = .ok (.aload_n 0, 1) := by decide +kernel
theorem dX6_wordFrom_39 : decode cX6_wordFrom 39 = .ok (.getfield 55, 3) := by decide +kernel
theorem dX6_wordFrom_42 : decode cX6_wordFrom 42 = .ok (.bipush 8, 2) := by decide +kernel
theorem dX6_wordFrom_44 : decode cX6_wordFrom 44 = .ok (.iload_n 3, 1) := by decide +kernel
theorem dX6_wordFrom_45 : decode cX6_wordFrom 45 = .ok (.imul, 1) := by decide +kernel
theorem dX6_wordFrom_46 : decode cX6_wordFrom 46 = .ok (.iload 5, 2) := by decide +kernel
theorem dX6_wordFrom_48 : decode cX6_wordFrom 48 = .ok (.iadd, 1) := by decide +kernel
theorem dX6_wordFrom_49 : decode cX6_wordFrom 49 = .ok (.iaload, 1) := by decide +kernel
theorem dX6_wordFrom_50 : decode cX6_wordFrom 50 = .ok (.iload_n 1, 1) := by decide +kernel
theorem dX6_wordFrom_51 : decode cX6_wordFrom 51 = .ok (.iload 5, 2) := by decide +kernel
theorem dX6_wordFrom_53 : decode cX6_wordFrom 53 = .ok (.iadd, 1) := by decide +kernel
theorem dX6_wordFrom_54 : decode cX6_wordFrom 54 = .ok (.iload_n 2, 1) := by decide +kernel
theorem dX6_wordFrom_55 : decode cX6_wordFrom 55 = .ok (.if_icmp .ge 15, 3) := by decide +kernel
theorem dX6_wordFrom_58 : decode cX6_wordFrom 58 = .ok (.aload_n 0, 1) := by decide +kernel
theorem dX6_wordFrom_59 : decode cX6_wordFrom 59 = .ok (.getfield 28, 3) := by decide +kernel
theorem dX6_wordFrom_62 : decode cX6_wordFrom 62 = .ok (.iload_n 1, 1) := by decide +kernel
theorem dX6_wordFrom_63 : decode cX6_wordFrom 63 = .ok (.iload 5, 2) := by decide +kernel
theorem dX6_wordFrom_65 : decode cX6_wordFrom 65 = .ok (.iadd, 1) := by decide +kernel
theorem dX6_wordFrom_66 : decode cX6_wordFrom 66 = .ok (.iaload, 1) := by decide +kernel
theorem dX6_wordFrom_67 : decode cX6_wordFrom 67 = .ok (.goto 5, 3) := by decide +kernel
theorem dX6_wordFrom_70 : decode cX6_wordFrom 70 = .ok (.bipush 32, 2) := by decide +kernel
theorem dX6_wordFrom_72 : decode cX6_wordFrom 72 = .ok (.if_icmp .ne 7, 3) := by decide +kernel
theorem dX6_wordFrom_75 : decode cX6_wordFrom 75 = .ok (.iconst 1, 1) := by decide +kernel
theorem dX6_wordFrom_76 : decode cX6_wordFrom 76 = .ok (.goto 4, 3) := by decide +kernel
theorem dX6_wordFrom_79 : decode cX6_wordFrom 79 = .ok (.iconst 0, 1) := by decide +kernel
theorem dX6_wordFrom_80 : decode cX6_wordFrom 80 = .ok (.istore 4, 2) := by decide +kernel
theorem dX6_wordFrom_82 : decode cX6_wordFrom 82 = .ok (.iinc 5 1, 3) := by decide +kernel
theorem dX6_wordFrom_85 : decode cX6_wordFrom 85 = .ok (.goto (-59), 3) := by decide +kernel
theorem dX6_wordFrom_88 : decode cX6_wordFrom 88 = .ok (.iload 4, 2) := by decide +kernel
theorem dX6_wordFrom_90 : decode cX6_wordFrom 90 = .ok (.ifCond .eq 5, 3) := by decide +kernel
theorem dX6_wordFrom_93 : decode cX6_wordFrom 93 = .ok (.iload_n 3, 1) := by decide +kernel
theorem dX6_wordFrom_94 : decode cX6_wordFrom 94 = .ok (.ireturn, 1) := by decide +kernel
theorem dX6_wordFrom_95 : decode cX6_wordFrom 95 = .ok (.iinc 3 1, 3) := by decide +kernel
theorem dX6_wordFrom_98 : decode cX6_wordFrom 98 = .ok (.goto (-96), 3) := by decide +kernel
theorem dX6_wordFrom_101 : decode cX6_wordFrom 101 = .ok (.bipush 12, 2) := by decide +kernel
theorem dX6_wordFrom_103 : decode cX6_wordFrom 103 = .ok (.ireturn, 1) := by decide +kernel
set_option maxRecDepth 20000 in
theorem ggX6_next_X6_in : GoodIn wsX6_next wsX6_in := goodIn_r _ [10] (by decide +kernel) (by decide +kernel)
set_option maxRecDepth 20000 in
theorem gX6_next_X6_in : GoodIn wsX6_next (va_wsS RX6 81 yX6_in wsX6_in) := goodIn_app (goodIn_of _ (by decide +kernel)) ggX6_next_X6_in
set_option maxRecDepth 20000 in
theorem ggX6_next_X6_wordFrom : GoodIn wsX6_next wsX6_wordFrom := goodIn_r _ [14, 15, 3, 16, 17, 18, 19, 20, 21, 22, 23, 24, 25, 26, 27, 28, 29, 30, 31, 32, 33, 34, 35, 36, 37, 38, 39, 40, 41, 42, 43, 44, 45, 46, 47, 48, 49, 50, 51, 52, 53] (by decide +kernel) (by decide +kernel)
set_option maxRecDepth 20000 in
theorem gX6_next_X6_wordFrom : GoodIn wsX6_next (wsV RX6 131 RX6 yX6_wordFrom wsX6_wordFrom) := goodIn_app (goodIn_of _ (by decide +kernel)) ggX6_next_X6_wordFrom
theorem dX6_next_0 : decode cX6_next 0 = .ok (.aload_n 0, 1) := by decide +kernel
theorem dX6_next_1 : decode cX6_next 1 = .ok (.getfield 119, 3) := by decide +kernel
theorem dX6_next_4 : decode cX6_next 4 = .ok (.aload_n 0, 1) := by decide +kernel
theorem dX6_next_5 : decode cX6_next 5 = .ok (.getfield 70, 3) := by decide +kernel
theorem dX6_next_8 : decode cX6_next 8 = .ok (.if_icmp .ge 44, 3) := by decide +kernel
theorem dX6_next_11 : decode cX6_next 11 = .ok (.aload_n 0, 1) := by decide +kernel
theorem dX6_next_12 : decode cX6_next 12 = .ok (.getfield 28, 3) := by decide +kernel
theorem dX6_next_15 : decode cX6_next 15 = .ok (.aload_n 0, 1) := by decide +kernel
theorem dX6_next_16 : decode cX6_next 16 = .ok (.getfield 119, 3) := by decide +kernel
theorem dX6_next_19 : decode cX6_next 19 = .ok (.iaload, 1) := by decide +kernel
theorem dX6_next_20 : decode cX6_next 20 = .ok (.bipush 32, 2) := by decide +kernel
theorem dX6_next_22 : decode cX6_next 22 = .ok (.if_icmp .eq 17, 3) := by decide +kernel
theorem dX6_next_25 : decode cX6_next 25 = .ok (.aload_n 0, 1) := by decide +kernel
theorem dX6_next_26 : decode cX6_next 26 = .ok (.getfield 28, 3) := by decide +kernel
theorem dX6_next_29 : decode cX6_next 29 = .ok (.aload_n 0, 1) := by decide +kernel
theorem dX6_next_30 : decode cX6_next 30 = .ok (.getfield 119, 3) := by decide +kernel
theorem dX6_next_33 : decode cX6_next 33 = .ok (.iaload, 1) := by decide +kernel
theorem dX6_next_34 : decode cX6_next 34 = .ok (.bipush 10, 2) := by decide +kernel
theorem dX6_next_36 : decode cX6_next 36 = .ok (.if_icmp .ne 16, 3) := by decide +kernel
theorem dX6_next_39 : decode cX6_next 39 = .ok (.aload_n 0, 1) := by decide +kernel
theorem dX6_next_40 : decode cX6_next 40 = .ok (.dup, 1) := by decide +kernel
theorem dX6_next_41 : decode cX6_next 41 = .ok (.getfield 119, 3) := by decide +kernel
theorem dX6_next_44 : decode cX6_next 44 = .ok (.iconst 1, 1) := by decide +kernel
theorem dX6_next_45 : decode cX6_next 45 = .ok (.iadd, 1) := by decide +kernel
theorem dX6_next_46 : decode cX6_next 46 = .ok (.putfield 119, 3) := by decide +kernel
theorem dX6_next_49 : decode cX6_next 49 = .ok (.goto (-49), 3) := by decide +kernel
theorem dX6_next_52 : decode cX6_next 52 = .ok (.aload_n 0, 1) := by decide +kernel
theorem dX6_next_53 : decode cX6_next 53 = .ok (.aload_n 0, 1) := by decide +kernel
theorem dX6_next_54 : decode cX6_next 54 = .ok (.getfield 119, 3) := by decide +kernel
theorem dX6_next_57 : decode cX6_next 57 = .ok (.putfield 122, 3) := by decide +kernel
theorem dX6_next_60 : decode cX6_next 60 = .ok (.aload_n 0, 1) := by decide +kernel
theorem dX6_next_61 : decode cX6_next 61 = .ok (.iconst 0, 1) := by decide +kernel
theorem dX6_next_62 : decode cX6_next 62 = .ok (.putfield 125, 3) := by decide +kernel
theorem dX6_next_65 : decode cX6_next 65 = .ok (.aload_n 0, 1) := by decide +kernel
theorem dX6_next_66 : decode cX6_next 66 = .ok (.iconst 0, 1) := by decide +kernel
theorem dX6_next_67 : decode cX6_next 67 = .ok (.putfield 128, 3) := by decide +kernel
theorem dX6_next_70 : decode cX6_next 70 = .ok (.aload_n 0, 1) := by decide +kernel
theorem dX6_next_71 : decode cX6_next 71 = .ok (.getfield 119, 3) := by decide +kernel
theorem dX6_next_74 : decode cX6_next 74 = .ok (.aload_n 0, 1) := by decide +kernel
theorem dX6_next_75 : decode cX6_next 75 = .ok (.getfield 70, 3) := by decide +kernel
theorem dX6_next_78 : decode cX6_next 78 = .ok (.if_icmp .ne 4, 3) := by decide +kernel
theorem dX6_next_81 : decode cX6_next 81 = .ok (.return_, 1) := by decide +kernel
theorem dX6_next_82 : decode cX6_next 82 = .ok (.aload_n 0, 1) := by decide +kernel
theorem dX6_next_83 : decode cX6_next 83 = .ok (.getfield 28, 3) := by decide +kernel
theorem dX6_next_86 : decode cX6_next 86 = .ok (.aload_n 0, 1) := by decide +kernel
theorem dX6_next_87 : decode cX6_next 87 = .ok (.getfield 119, 3) := by decide +kernel
theorem dX6_next_90 : decode cX6_next 90 = .ok (.iaload, 1) := by decide +kernel
theorem dX6_next_91 : decode cX6_next 91 = .ok (.istore_n 1, 1) := by decide +kernel
theorem dX6_next_92 : decode cX6_next 92 = .ok (.iload_n 1, 1) := by decide +kernel
theorem dX6_next_93 : decode cX6_next 93 = .ok (.bipush 97, 2) := by decide +kernel
theorem dX6_next_95 : decode cX6_next 95 = .ok (.bipush 122, 2) := by decide +kernel
theorem dX6_next_97 : decode cX6_next 97 = .ok (.invokestatic 81, 3) := by decide +kernel
theorem dX6_next_100 : decode cX6_next 100 = .ok (.ifCond .eq 117, 3) := by decide +kernel
theorem dX6_next_103 : decode cX6_next 103 = .ok (.aload_n 0, 1) := by decide +kernel
theorem dX6_next_104 : decode cX6_next 104 = .ok (.getfield 119, 3) := by decide +kernel
theorem dX6_next_107 : decode cX6_next 107 = .ok (.aload_n 0, 1) := by decide +kernel
theorem dX6_next_108 : decode cX6_next 108 = .ok (.getfield 70, 3) := by decide +kernel
theorem dX6_next_111 : decode cX6_next 111 = .ok (.if_icmp .ge 35, 3) := by decide +kernel
theorem dX6_next_114 : decode cX6_next 114 = .ok (.aload_n 0, 1) := by decide +kernel
theorem dX6_next_115 : decode cX6_next 115 = .ok (.getfield 28, 3) := by decide +kernel
theorem dX6_next_118 : decode cX6_next 118 = .ok (.aload_n 0, 1) := by decide +kernel
theorem dX6_next_119 : decode cX6_next 119 = .ok (.getfield 119, 3) := by decide +kernel
theorem dX6_next_122 : decode cX6_next 122 = .ok (.iaload, 1) := by decide +kernel
theorem dX6_next_123 : decode cX6_next 123 = .ok (.bipush 97, 2) := by decide +kernel
theorem dX6_next_125 : decode cX6_next 125 = .ok (.bipush 122, 2) := by decide +kernel
theorem dX6_next_127 : decode cX6_next 127 = .ok (.invokestatic 81, 3) := by decide +kernel
theorem dX6_next_130 : decode cX6_next 130 = .ok (.ifCond .eq 16, 3) := by decide +kernel
theorem dX6_next_133 : decode cX6_next 133 = .ok (.aload_n 0, 1) := by decide +kernel
theorem dX6_next_134 : decode cX6_next 134 = .ok (.dup, 1) := by decide +kernel
theorem dX6_next_135 : decode cX6_next 135 = .ok (.getfield 119, 3) := by decide +kernel
theorem dX6_next_138 : decode cX6_next 138 = .ok (.iconst 1, 1) := by decide +kernel
theorem dX6_next_139 : decode cX6_next 139 = .ok (.iadd, 1) := by decide +kernel
theorem dX6_next_140 : decode cX6_next 140 = .ok (.putfield 119, 3) := by decide +kernel
theorem dX6_next_143 : decode cX6_next 143 = .ok (.goto (-40), 3) := by decide +kernel
theorem dX6_next_146 : decode cX6_next 146 = .ok (.aload_n 0, 1) := by decide +kernel
theorem dX6_next_147 : decode cX6_next 147 = .ok (.aload_n 0, 1) := by decide +kernel
theorem dX6_next_148 : decode cX6_next 148 = .ok (.getfield 122, 3) := by decide +kernel
theorem dX6_next_151 : decode cX6_next 151 = .ok (.aload_n 0, 1) := by decide +kernel
theorem dX6_next_152 : decode cX6_next 152 = .ok (.getfield 119, 3) := by decide +kernel
theorem dX6_next_155 : decode cX6_next 155 = .ok (.invokevirtual 131, 3) := by decide +kernel
theorem dX6_next_158 : decode cX6_next 158 = .ok (.istore_n 2, 1) := by decide +kernel
theorem dX6_next_159 : decode cX6_next 159 = .ok (.aload_n 0, 1) := by decide +kernel
theorem dX6_next_160 : decode cX6_next 160 = .ok (.iload_n 2, 1) := by decide +kernel
theorem dX6_next_161 : decode cX6_next 161 = .ok (.iconst 3, 1) := by decide +kernel
theorem dX6_next_162 : decode cX6_next 162 = .ok (.if_icmp .ge 7, 3) := by decide +kernel
theorem dX6_next_165 : decode cX6_next 165 = .ok (.iconst 3, 1) := by decide +kernel
theorem dX6_next_166 : decode cX6_next 166 = .ok (.goto 29, 3) := by decide +kernel
theorem dX6_next_169 : decode cX6_next 169 = .ok (.iload_n 2, 1) := by decide +kernel
theorem dX6_next_170 : decode cX6_next 170 = .ok (.bipush 9, 2) := by decide +kernel
theorem dX6_next_172 : decode cX6_next 172 = .ok (.if_icmp .ge 7, 3) := by decide +kernel
theorem dX6_next_175 : decode cX6_next 175 = .ok (.iconst 2, 1) := by decide +kernel
theorem dX6_next_176 : decode cX6_next 176 = .ok (.goto 19, 3) := by decide +kernel
theorem dX6_next_179 : decode cX6_next 179 = .ok (.iload_n 2, 1) := by decide +kernel
theorem dX6_next_180 : decode cX6_next 180 = .ok (.bipush 12, 2) := by decide +kernel
theorem dX6_next_182 : decode cX6_next 182 = .ok (.if_icmp .ne 7, 3) := by decide +kernel
theorem dX6_next_185 : decode cX6_next 185 = .ok (.iconst (-1), 1) := by decide +kernel
theorem dX6_next_186 : decode cX6_next 186 = .ok (.goto 9, 3) := by decide +kernel
theorem dX6_next_189 : decode cX6_next 189 = .ok (.iconst 4, 1) := by decide +kernel
theorem dX6_next_190 : decode cX6_next 190 = .ok (.iload_n 2, 1) := by decide +kernel
theorem dX6_next_191 : decode cX6_next 191 = .ok (.iadd, 1) := by decide +kernel
theorem dX6_next_192 : decode cX6_next 192 = .ok (.bipush 9, 2) := by decide +kernel
theorem dX6_next_194 : decode cX6_next 194 = .ok (.isub, 1) := by decide +kernel
theorem dX6_next_195 : decode cX6_next 195 = .ok (.putfield 125, 3) := by decide +kernel
theorem dX6_next_198 : decode cX6_next 198 = .ok (.aload_n 0, 1) := by decide +kernel
theorem dX6_next_199 : decode cX6_next 199 = .ok (.iload_n 2, 1) := by decide +kernel
theorem dX6_next_200 : decode cX6_next 200 = .ok (.iconst 3, 1) := by decide +kernel
theorem dX6_next_201 : decode cX6_next 201 = .ok (.if_icmp .ge 7, 3) := by decide +kernel
theorem dX6_next_204 : decode cX6_next 204 = .ok (.iload_n 2, 1) := by decide +kernel
theorem dX6_next_205 : decode cX6_next 205 = .ok (.goto 6, 3) := by decide +kernel
theorem dX6_next_208 : decode cX6_next 208 = .ok (.iload_n 2, 1) := by decide +kernel
theorem dX6_next_209 : decode cX6_next 209 = .ok (.iconst 3, 1) := by decide +kernel
theorem dX6_next_210 : decode cX6_next 210 = .ok (.isub, 1) := by decide +kernel
theorem dX6_next_211 : decode cX6_next 211 = .ok (.putfield 128, 3) := by decide +kernel
theorem dX6_next_214 : decode cX6_next 214 = .ok (.goto 189, 3) := by decide +kernel
theorem dX6_next_217 : decode cX6_next 217 = .ok (.iload_n 1, 1) := by decide +kernel
theorem dX6_next_218 : decode cX6_next 218 = .ok (.bipush 48, 2) := by decide +kernel
theorem dX6_next_220 : decode cX6_next 220 = .ok (.bipush 57, 2) := by decide +kernel
theorem dX6_next_222 : decode cX6_next 222 = .ok (.invokestatic 81, 3) := by decide +kernel
theorem dX6_next_225 : decode cX6_next 225 = .ok (.ifCond .eq 101, 3) := by decide +kernel
theorem dX6_next_228 : decode cX6_next 228 = .ok (.iconst 0, 1) := by decide +kernel
theorem dX6_next_229 : decode cX6_next 229 = .ok (.istore_n 2, 1) := by decide +kernel
theorem dX6_next_230 : decode cX6_next 230 = .ok (.aload_n 0, 1) := by decide +kernel
theorem dX6_next_231 : decode cX6_next 231 = .ok (.getfield 119, 3) := by decide +kernel
theorem dX6_next_234 : decode cX6_next 234 = .ok (.aload_n 0, 1) := by decide +kernel
theorem dX6_next_235 : decode cX6_next 235 = .ok (.getfield 70, 3) := by decide +kernel
theorem dX6_next_238 : decode cX6_next 238 = .ok (.if_icmp .ge 71, 3) := by decide +kernel
theorem dX6_next_241 : decode cX6_next 241 = .ok (.aload_n 0, 1) := by decide +kernel
theorem dX6_next_242 : decode cX6_next 242 = .ok (.getfield 28, 3) := by decide +kernel
theorem dX6_next_245 : decode cX6_next 245 = .ok (.aload_n 0, 1) := by decide +kernel
theorem dX6_next_246 : decode cX6_next 246 = .ok (.getfield 119, 3) := by decide +kernel
theorem dX6_next_249 : decode cX6_next 249 = .ok (.iaload, 1) := by decide +kernel
theorem dX6_next_250 : decode cX6_next 250 = .ok (.bipush 48, 2) := by decide +kernel
theorem dX6_next_252 : decode cX6_next 252 = .ok (.bipush 57, 2) := by decide +kernel
theorem dX6_next_254 : decode cX6_next 254 = .ok (.invokestatic 81, 3) := by decide +kernel
theorem dX6_next_257 : decode cX6_next 257 = .ok (.ifCond .eq 52, 3) := by decide +kernel
theorem dX6_next_260 : decode cX6_next 260 = .ok (.aload_n 0, 1) := by decide +kernel
theorem dX6_next_261 : decode cX6_next 261 = .ok (.iload_n 2, 1) := by decide +kernel
theorem dX6_next_262 : decode cX6_next 262 = .ok (.iconst 4, 1) := by decide +kernel
theorem dX6_next_263 : decode cX6_next 263 = .ok (.if_icmp .ge 26, 3) := by decide +kernel
theorem dX6_next_266 : decode cX6_next 266 = .ok (.bipush 10, 2) := by decide +kernel
theorem dX6_next_268 : decode cX6_next 268 = .ok (.aload_n 0, 1) := by decide +kernel
theorem dX6_next_269 : decode cX6_next 269 = .ok (.getfield 128, 3) := by decide +kernel
theorem dX6_next_272 : decode cX6_next 272 = .ok (.imul, 1) := by decide +kernel
theorem dX6_next_273 : decode cX6_next 273 = .ok (.aload_n 0, 1) := by decide +kernel
theorem dX6_next_274 : decode cX6_next 274 = .ok (.getfield 28, 3) := by decide +kernel
theorem dX6_next_277 : decode cX6_next 277 = .ok (.aload_n 0, 1) := by decide +kernel
theorem dX6_next_278 : decode cX6_next 278 = .ok (.getfield 119, 3) := by decide +kernel
theorem dX6_next_281 : decode cX6_next 281 = .ok (.iaload, 1) := by decide +kernel
theorem dX6_next_282 : decode cX6_next 282 = .ok (.iadd, 1) := by decide +kernel
theorem dX6_next_283 : decode cX6_next 283 = .ok (.bipush 48, 2) := by decide +kernel
theorem dX6_next_285 : decode cX6_next 285 = .ok (.isub, 1) := by decide +kernel
theorem dX6_next_286 : decode cX6_next 286 = .ok (.goto 4, 3) := by decide +kernel
theorem dX6_next_289 : decode cX6_next 289 = .ok (.iconst 0, 1) := by decide +kernel
theorem dX6_next_290 : decode cX6_next 290 = .ok (.putfield 128, 3) := by decide +kernel
theorem dX6_next_293 : decode cX6_next 293 = .ok (.iinc 2 1, 3) := by decide +kernel
theorem dX6_next_296 : decode cX6_next 296 = .ok (.aload_n 0, 1) := by decide +kernel
theorem dX6_next_297 : decode cX6_next 297 = .ok (.dup, 1) := by decide +kernel
theorem dX6_next_298 : decode cX6_next 298 = .ok (.getfield 119, 3) := by decide +kernel
theorem dX6_next_301 : decode cX6_next 301 = .ok (.iconst 1, 1) := by decide +kernel
theorem dX6_next_302 : decode cX6_next 302 = .ok (.iadd, 1) := by decide +kernel
theorem dX6_next_303 : decode cX6_next 303 = .ok (.putfield 119, 3) := by decide +kernel
theorem dX6_next_306 : decode cX6_next 306 = .ok (.goto (-76), 3) := by decide +kernel
theorem dX6_next_309 : decode cX6_next 309 = .ok (.aload_n 0, 1) := by decide +kernel
theorem dX6_next_310 : decode cX6_next 310 = .ok (.iload_n 2, 1) := by decide +kernel
theorem dX6_next_311 : decode cX6_next 311 = .ok (.iconst 4, 1) := by decide +kernel
theorem dX6_next_312 : decode cX6_next 312 = .ok (.if_icmp .le 7, 3) := by decide +kernel
theorem dX6_next_315 : decode cX6_next 315 = .ok (.iconst (-1), 1) := by decide +kernel
theorem dX6_next_316 : decode cX6_next 316 = .ok (.goto 4, 3) := by decide +kernel
theorem dX6_next_319 : decode cX6_next 319 = .ok (.iconst 1, 1) := by decide +kernel
theorem dX6_next_320 : decode cX6_next 320 = .ok (.putfield 125, 3) := by decide +kernel
theorem dX6_next_323 : decode cX6_next 323 = .ok (.goto 80, 3) := by decide +kernel
theorem dX6_next_326 : decode cX6_next 326 = .ok (.iload_n 1, 1) := by decide +kernel
theorem dX6_next_327 : decode cX6_next 327 = .ok (.bipush 40, 2) := by decide +kernel
theorem dX6_next_329 : decode cX6_next 329 = .ok (.if_icmp .eq 45, 3) := by decide +kernel
theorem dX6_next_332 : decode cX6_next 332 = .ok (.iload_n 1, 1) := by decide +kernel
theorem dX6_next_333 : decode cX6_next 333 = .ok (.bipush 41, 2) := by decide +kernel
theorem dX6_next_335 : decode cX6_next 335 = .ok (.if_icmp .eq 39, 3) := by decide +kernel
theorem dX6_next_338 : decode cX6_next 338 = .ok (.iload_n 1, 1) := by decide +kernel
theorem dX6_next_339 : decode cX6_next 339 = .ok (.bipush 59, 2) := by decide +kernel
theorem dX6_next_341 : decode cX6_next 341 = .ok (.if_icmp .eq 33, 3) := by decide +kernel
theorem dX6_next_344 : decode cX6_next 344 = .ok (.iload_n 1, 1) := by decide +kernel
theorem dX6_next_345 : decode cX6_next 345 = .ok (.bipush 43, 2) := by decide +kernel
theorem dX6_next_347 : decode cX6_next 347 = .ok (.if_icmp .eq 27, 3) := by decide +kernel
theorem dX6_next_350 : decode cX6_next 350 = .ok (.iload_n 1, 1) := by decide +kernel
theorem dX6_next_351 : decode cX6_next 351 = .ok (.bipush 45, 2) := by decide +kernel
theorem dX6_next_353 : decode cX6_next 353 = .ok (.if_icmp .eq 21, 3) := by decide +kernel
theorem dX6_next_356 : decode cX6_next 356 = .ok (.iload_n 1, 1) := by decide +kernel
theorem dX6_next_357 : decode cX6_next 357 = .ok (.bipush 42, 2) := by decide +kernel
theorem dX6_next_359 : decode cX6_next 359 = .ok (.if_icmp .eq 15, 3) := by decide +kernel
theorem dX6_next_362 : decode cX6_next 362 = .ok (.iload_n 1, 1) := by decide +kernel
theorem dX6_next_363 : decode cX6_next 363 = .ok (.bipush 60, 2) := by decide +kernel
theorem dX6_next_365 : decode cX6_next 365 = .ok (.if_icmp .eq 9, 3) := by decide +kernel
theorem dX6_next_368 : decode cX6_next 368 = .ok (.iload_n 1, 1) := by decide +kernel
theorem dX6_next_369 : decode cX6_next 369 = .ok (.bipush 61, 2) := by decide +kernel
theorem dX6_next_371 : decode cX6_next 371 = .ok (.if_icmp .ne 7, 3) := by decide +kernel
theorem dX6_next_374 : decode cX6_next 374 = .ok (.iconst 1, 1) := by decide +kernel
theorem dX6_next_375 : decode cX6_next 375 = .ok (.goto 4, 3) := by decide +kernel
theorem dX6_next_378 : decode cX6_next 378 = .ok (.iconst 0, 1) := by decide +kernel
theorem dX6_next_379 : decode cX6_next 379 = .ok (.istore_n 2, 1) := by decide +kernel
theorem dX6_next_380 : decode cX6_next 380 = .ok (.aload_n 0, 1) := by decide +kernel
theorem dX6_next_381 : decode cX6_next 381 = .ok (.iload_n 2, 1) := by decide +kernel
theorem dX6_next_382 : decode cX6_next 382 = .ok (.ifCond .eq 7, 3) := by decide +kernel
theorem dX6_next_385 : decode cX6_next 385 = .ok (.iload_n 1, 1) := by decide +kernel
theorem dX6_next_386 : decode cX6_next 386 = .ok (.goto 4, 3) := by decide +kernel
theorem dX6_next_389 : decode cX6_next 389 = .ok (.iconst (-1), 1) := by decide +kernel
theorem dX6_next_390 : decode cX6_next 390 = .ok (.putfield 125, 3) := by decide +kernel
theorem dX6_next_393 : decode cX6_next 393 = .ok (.aload_n 0, 1) := by decide +kernel
theorem dX6_next_394 : decode cX6_next 394 = .ok (.dup, 1) := by decide +kernel
theorem dX6_next_395 : decode cX6_next 395 = .ok (.getfield 119, 3) := by decide +kernel
theorem dX6_next_398 : decode cX6_next 398 = .ok (.iconst 1, 1) := by decide +kernel
theorem dX6_next_399 : decode cX6_next 399 = .ok (.iadd, 1) := by decide +kernel
theorem dX6_next_400 : decode cX6_next 400 = .ok (.putfield 119, 3) := by decide +kernel
theorem dX6_next_403 : decode cX6_next 403 = .ok (.return_, 1) := by decide +kernel
theorem dX6_rank_0 : decode cX6_rank 0 = .ok (.iload_n 0, 1) := by decide +kernel
theorem dX6_rank_1 : decode cX6_rank 1 = .ok (.ifCond .ne 7, 3) := by decide +kernel
theorem dX6_rank_4 : decode cX6_rank 4 = .ok (.iconst 0, 1) := by decide +kernel
theorem dX6_rank_5 : decode cX6_rank 5 = .ok (.goto 66, 3) := by decide +kernel
theorem dX6_rank_8 : decode cX6_rank 8 = .ok (.iload_n 0, 1) := by decide +kernel
theorem dX6_rank_9 : decode cX6_rank 9 = .ok (.bipush 11, 2) := by decide +kernel
theorem dX6_rank_11 : decode cX6_rank 11 = .ok (.if_icmp .ne 7, 3) := by decide +kernel
theorem dX6_rank_14 : decode cX6_rank 14 = .ok (.iconst 1, 1) := by decide +kernel
theorem dX6_rank_15 : decode cX6_rank 15 = .ok (.goto 56, 3) := by decide +kernel
theorem dX6_rank_18 : decode cX6_rank 18 = .ok (.iload_n 0, 1) := by decide +kernel
theorem dX6_rank_19 : decode cX6_rank 19 = .ok (.bipush 12, 2) := by decide +kernel
theorem dX6_rank_21 : decode cX6_rank 21 = .ok (.if_icmp .ne 7, 3) := by decide +kernel
theorem dX6_rank_24 : decode cX6_rank 24 = .ok (.iconst 2, 1) := by decide +kernel
theorem dX6_rank_25 : decode cX6_rank 25 = .ok (.goto 46, 3) := by decide +kernel
theorem dX6_rank_28 : decode cX6_rank 28 = .ok (.iload_n 0, 1) := by decide +kernel
theorem dX6_rank_29 : decode cX6_rank 29 = .ok (.bipush 13, 2) := by decide +kernel
theorem dX6_rank_31 : decode cX6_rank 31 = .ok (.if_icmp .ne 7, 3) := by decide +kernel
theorem dX6_rank_34 : decode cX6_rank 34 = .ok (.iconst 3, 1) := by decide +kernel
theorem dX6_rank_35 : decode cX6_rank 35 = .ok (.goto 36, 3) := by decide +kernel
theorem dX6_rank_38 : decode cX6_rank 38 = .ok (.iload_n 0, 1) := by decide +kernel
theorem dX6_rank_39 : decode cX6_rank 39 = .ok (.bipush 15, 2) := by decide +kernel
theorem dX6_rank_41 : decode cX6_rank 41 = .ok (.if_icmp .gt 7, 3) := by decide +kernel
theorem dX6_rank_44 : decode cX6_rank 44 = .ok (.iconst 4, 1) := by decide +kernel
theorem dX6_rank_45 : decode cX6_rank 45 = .ok (.goto 26, 3) := by decide +kernel
theorem dX6_rank_48 : decode cX6_rank 48 = .ok (.iload_n 0, 1) := by decide +kernel
theorem dX6_rank_49 : decode cX6_rank 49 = .ok (.bipush 17, 2) := by decide +kernel
theorem dX6_rank_51 : decode cX6_rank 51 = .ok (.if_icmp .gt 7, 3) := by decide +kernel
theorem dX6_rank_54 : decode cX6_rank 54 = .ok (.iconst 5, 1) := by decide +kernel
theorem dX6_rank_55 : decode cX6_rank 55 = .ok (.goto 16, 3) := by decide +kernel
theorem dX6_rank_58 : decode cX6_rank 58 = .ok (.iload_n 0, 1) := by decide +kernel
theorem dX6_rank_59 : decode cX6_rank 59 = .ok (.bipush 18, 2) := by decide +kernel
theorem dX6_rank_61 : decode cX6_rank 61 = .ok (.if_icmp .ne 8, 3) := by decide +kernel
theorem dX6_rank_64 : decode cX6_rank 64 = .ok (.bipush 6, 2) := by decide +kernel
theorem dX6_rank_66 : decode cX6_rank 66 = .ok (.goto 5, 3) := by decide +kernel
theorem dX6_rank_69 : decode cX6_rank 69 = .ok (.bipush 7, 2) := by decide +kernel
theorem dX6_rank_71 : decode cX6_rank 71 = .ok (.ireturn, 1) := by decide +kernel
theorem dX6_puts_0 : decode cX6_puts 0 = .ok (.aload_n 0, 1) := by decide +kernel
theorem dX6_puts_1 : decode cX6_puts 1 = .ok (.getfield 31, 3) := by decide +kernel
theorem dX6_puts_4 : decode cX6_puts 4 = .ok (.sipush 200, 3) := by decide +kernel
theorem dX6_puts_7 : decode cX6_puts 7 = .ok (.aload_n 0, 1) := by decide +kernel
theorem dX6_puts_8 : decode cX6_puts 8 = .ok (.getfield 99, 3) := by decide +kernel
theorem dX6_puts_11 : decode cX6_puts 11 = .ok (.imul, 1) := by decide +kernel
theorem dX6_puts_12 : decode cX6_puts 12 = .ok (.aload_n 0, 1) := by decide +kernel
theorem dX6_puts_13 : decode cX6_puts 13 = .ok (.getfield 135, 3) := by decide +kernel
theorem dX6_puts_16 : decode cX6_puts 16 = .ok (.iadd, 1) := by decide +kernel
theorem dX6_puts_17 : decode cX6_puts 17 = .ok (.iload_n 1, 1) := by decide +kernel
theorem dX6_puts_18 : decode cX6_puts 18 = .ok (.iastore, 1) := by decide +kernel
theorem dX6_puts_19 : decode cX6_puts 19 = .ok (.aload_n 0, 1) := by decide +kernel
theorem dX6_puts_20 : decode cX6_puts 20 = .ok (.dup, 1) := by decide +kernel
theorem dX6_puts_21 : decode cX6_puts 21 = .ok (.getfield 135, 3) := by decide +kernel
theorem dX6_puts_24 : decode cX6_puts 24 = .ok (.iconst 1, 1) := by decide +kernel
theorem dX6_puts_25 : decode cX6_puts 25 = .ok (.iadd, 1) := by decide +kernel
theorem dX6_puts_26 : decode cX6_puts 26 = .ok (.putfield 135, 3) := by decide +kernel
theorem dX6_puts_29 : decode cX6_puts 29 = .ok (.return_, 1) := by decide +kernel
set_option maxRecDepth 20000 in
theorem ggX6_unwinds_X6_rank : GoodIn wsX6_unwinds wsX6_rank := goodIn_r _ [7] (by decide +kernel) (by decide +kernel)
set_option maxRecDepth 20000 in
theorem gX6_unwinds_X6_rank : GoodIn wsX6_unwinds (va_wsS RX6 141 yX6_rank wsX6_rank) := goodIn_app (goodIn_of _ (by decide +kernel)) ggX6_unwinds_X6_rank
set_option maxRecDepth 20000 in
theorem ggX6_unwinds_X6_puts : GoodIn wsX6_unwinds wsX6_puts := goodIn_r _ [11, 12, 13, 14, 15, 16, 17, 18, 19, 20, 21, 22, 23, 24, 25, 26, 27, 28, 29, 30, 31, 32, 33, 34, 35, 36, 37, 38, 39, 40, 41, 42, 43, 44, 45, 46, 47, 48, 49, 50, 51, 52] (by decide +kernel) (by decide +kernel)
set_option maxRecDepth 20000 in
theorem gX6_unwinds_X6_puts : GoodIn wsX6_unwinds (wsV RX6 147 RX6 yX6_puts wsX6_puts) := goodIn_app (goodIn_of _ (by decide +kernel)) ggX6_unwinds_X6_puts
theorem dX6_unwinds_0 : decode cX6_unwinds 0 = .ok (.aload_n 0, 1) := by decide +kernel
theorem dX6_unwinds_1 : decode cX6_unwinds 1 = .ok (.getfield 138, 3) := by decide +kernel
theorem dX6_unwinds_4 : decode cX6_unwinds 4 = .ok (.ifCond .le 75, 3) := by decide +kernel
theorem dX6_unwinds_7 : decode cX6_unwinds 7 = .ok (.aload_n 0, 1) := by decide +kernel
theorem dX6_unwinds_8 : decode cX6_unwinds 8 = .ok (.getfield 58, 3) := by decide +kernel
theorem dX6_unwinds_11 : decode cX6_unwinds 11 = .ok (.aload_n 0, 1) := by decide +kernel
theorem dX6_unwinds_12 : decode cX6_unwinds 12 = .ok (.getfield 138, 3) := by decide +kernel
theorem dX6_unwinds_15 : decode cX6_unwinds 15 = .ok (.iconst 1, 1) := by decide +kernel
theorem dX6_unwinds_16 : decode cX6_unwinds 16 = .ok (.isub, 1) := by decide +kernel
theorem dX6_unwinds_17 : decode cX6_unwinds 17 = .ok (.iaload, 1) := by decide +kernel
theorem dX6_unwinds_18 : decode cX6_unwinds 18 = .ok (.invokestatic 141, 3) := by decide +kernel
theorem dX6_unwinds_21 : decode cX6_unwinds 21 = .ok (.iload_n 1, 1) := by decide +kernel
theorem dX6_unwinds_22 : decode cX6_unwinds 22 = .ok (.if_icmp .lt 57, 3) := by decide +kernel
theorem dX6_unwinds_25 : decode cX6_unwinds 25 = .ok (.aload_n 0, 1) := by decide +kernel
theorem dX6_unwinds_26 : decode cX6_unwinds 26 = .ok (.dup, 1) := by decide +kernel
theorem dX6_unwinds_27 : decode cX6_unwinds 27 = .ok (.getfield 138, 3) := by decide +kernel
theorem dX6_unwinds_30 : decode cX6_unwinds 30 = .ok (.iconst 1, 1) := by decide +kernel
theorem dX6_unwinds_31 : decode cX6_unwinds 31 = .ok (.isub, 1) := by decide +kernel
theorem dX6_unwinds_32 : decode cX6_unwinds 32 = .ok (.putfield 138, 3) := by decide +kernel
theorem dX6_unwinds_35 : decode cX6_unwinds 35 = .ok (.aload_n 0, 1) := by decide +kernel
theorem dX6_unwinds_36 : decode cX6_unwinds 36 = .ok (.getfield 58, 3) := by decide +kernel
theorem dX6_unwinds_39 : decode cX6_unwinds 39 = .ok (.aload_n 0, 1) := by decide +kernel
theorem dX6_unwinds_40 : decode cX6_unwinds 40 = .ok (.getfield 138, 3) := by decide +kernel
theorem dX6_unwinds_43 : decode cX6_unwinds 43 = .ok (.iaload, 1) := by decide +kernel
theorem dX6_unwinds_44 : decode cX6_unwinds 44 = .ok (.istore_n 2, 1) := by decide +kernel
theorem dX6_unwinds_45 : decode cX6_unwinds 45 = .ok (.aload_n 0, 1) := by decide +kernel
theorem dX6_unwinds_46 : decode cX6_unwinds 46 = .ok (.dup, 1) := by decide +kernel
theorem dX6_unwinds_47 : decode cX6_unwinds 47 = .ok (.getfield 144, 3) := by decide +kernel
theorem dX6_unwinds_50 : decode cX6_unwinds 50 = .ok (.iload_n 2, 1) := by decide +kernel
theorem dX6_unwinds_51 : decode cX6_unwinds 51 = .ok (.bipush 13, 2) := by decide +kernel
theorem dX6_unwinds_53 : decode cX6_unwinds 53 = .ok (.if_icmp .eq 9, 3) := by decide +kernel
theorem dX6_unwinds_56 : decode cX6_unwinds 56 = .ok (.iload_n 2, 1) := by decide +kernel
theorem dX6_unwinds_57 : decode cX6_unwinds 57 = .ok (.bipush 19, 2) := by decide +kernel
theorem dX6_unwinds_59 : decode cX6_unwinds 59 = .ok (.if_icmp .ne 7, 3) := by decide +kernel
theorem dX6_unwinds_62 : decode cX6_unwinds 62 = .ok (.iconst 1, 1) := by decide +kernel
theorem dX6_unwinds_63 : decode cX6_unwinds 63 = .ok (.goto 4, 3) := by decide +kernel
theorem dX6_unwinds_66 : decode cX6_unwinds 66 = .ok (.iconst 0, 1) := by decide +kernel
theorem dX6_unwinds_67 : decode cX6_unwinds 67 = .ok (.isub, 1) := by decide +kernel
theorem dX6_unwinds_68 : decode cX6_unwinds 68 = .ok (.putfield 144, 3) := by decide +kernel
theorem dX6_unwinds_71 : decode cX6_unwinds 71 = .ok (.aload_n 0, 1) := by decide +kernel
theorem dX6_unwinds_72 : decode cX6_unwinds 72 = .ok (.iload_n 2, 1) := by decide +kernel
theorem dX6_unwinds_73 : decode cX6_unwinds 73 = .ok (.invokevirtual 147, 3) := by decide +kernel
theorem dX6_unwinds_76 : decode cX6_unwinds 76 = .ok (.goto (-76), 3) := by decide +kernel
theorem dX6_unwinds_79 : decode cX6_unwinds 79 = .ok (.return_, 1) := by decide +kernel
theorem dX6_holds_0 : decode cX6_holds 0 = .ok (.aload_n 0, 1) := by decide +kernel
theorem dX6_holds_1 : decode cX6_holds 1 = .ok (.getfield 58, 3) := by decide +kernel
theorem dX6_holds_4 : decode cX6_holds 4 = .ok (.aload_n 0, 1) := by decide +kernel
theorem dX6_holds_5 : decode cX6_holds 5 = .ok (.getfield 138, 3) := by decide +kernel
theorem dX6_holds_8 : decode cX6_holds 8 = .ok (.iload_n 1, 1) := by decide +kernel
theorem dX6_holds_9 : decode cX6_holds 9 = .ok (.iastore, 1) := by decide +kernel
theorem dX6_holds_10 : decode cX6_holds 10 = .ok (.aload_n 0, 1) := by decide +kernel
theorem dX6_holds_11 : decode cX6_holds 11 = .ok (.dup, 1) := by decide +kernel
theorem dX6_holds_12 : decode cX6_holds 12 = .ok (.getfield 138, 3) := by decide +kernel
theorem dX6_holds_15 : decode cX6_holds 15 = .ok (.iconst 1, 1) := by decide +kernel
theorem dX6_holds_16 : decode cX6_holds 16 = .ok (.iadd, 1) := by decide +kernel
theorem dX6_holds_17 : decode cX6_holds 17 = .ok (.putfield 138, 3) := by decide +kernel
theorem dX6_holds_20 : decode cX6_holds 20 = .ok (.return_, 1) := by decide +kernel
set_option maxRecDepth 20000 in
theorem ggX6_opensOne_X6_holds : GoodIn wsX6_opensOne wsX6_holds := goodIn_r _ [6, 7, 8, 9, 10, 11, 12, 13, 14, 15, 16, 17, 18, 19, 20, 21, 22, 23, 24, 25, 26, 27, 28, 29, 30, 31, 32, 33, 34, 35, 36, 37, 38, 39, 40, 41, 42, 43, 44, 45, 46] (by decide +kernel) (by decide +kernel)
set_option maxRecDepth 20000 in
theorem gX6_opensOne_X6_holds : GoodIn wsX6_opensOne (wsV RX6 151 RX6 yX6_holds wsX6_holds) := goodIn_app (goodIn_of _ (by decide +kernel)) ggX6_opensOne_X6_holds
theorem dX6_opensOne_0 : decode cX6_opensOne 0 = .ok (.aload_n 0, 1) := by decide +kernel
theorem dX6_opensOne_1 : decode cX6_opensOne 1 = .ok (.getfield 144, 3) := by decide +kernel
theorem dX6_opensOne_4 : decode cX6_opensOne 4 = .ok (.iconst 5, 1) := by decide +kernel
theorem dX6_opensOne_5 : decode cX6_opensOne 5 = .ok (.if_icmp .ne 5, 3) := by decide +kernel
theorem dX6_opensOne_8 : decode cX6_opensOne 8 = .ok (.iconst 0, 1) := by decide +kernel
theorem dX6_opensOne_9 : decode cX6_opensOne 9 = .ok (.ireturn, 1) := by decide +kernel
theorem dX6_opensOne_10 : decode cX6_opensOne 10 = .ok (.aload_n 0, 1) := by decide +kernel
theorem dX6_opensOne_11 : decode cX6_opensOne 11 = .ok (.dup, 1) := by decide +kernel
theorem dX6_opensOne_12 : decode cX6_opensOne 12 = .ok (.getfield 144, 3) := by decide +kernel
theorem dX6_opensOne_15 : decode cX6_opensOne 15 = .ok (.iconst 1, 1) := by decide +kernel
theorem dX6_opensOne_16 : decode cX6_opensOne 16 = .ok (.iadd, 1) := by decide +kernel
theorem dX6_opensOne_17 : decode cX6_opensOne 17 = .ok (.putfield 144, 3) := by decide +kernel
theorem dX6_opensOne_20 : decode cX6_opensOne 20 = .ok (.aload_n 0, 1) := by decide +kernel
theorem dX6_opensOne_21 : decode cX6_opensOne 21 = .ok (.iload_n 1, 1) := by decide +kernel
theorem dX6_opensOne_22 : decode cX6_opensOne 22 = .ok (.invokevirtual 151, 3) := by decide +kernel
theorem dX6_opensOne_25 : decode cX6_opensOne 25 = .ok (.iconst 1, 1) := by decide +kernel
theorem dX6_opensOne_26 : decode cX6_opensOne 26 = .ok (.ireturn, 1) := by decide +kernel
set_option maxRecDepth 20000 in
theorem ggX6_between_X6_rank : GoodIn wsX6_between wsX6_rank := goodIn_r _ [6] (by decide +kernel) (by decide +kernel)
set_option maxRecDepth 20000 in
theorem gX6_between_X6_rank : GoodIn wsX6_between (va_wsS RX6 141 yX6_rank wsX6_rank) := goodIn_app (goodIn_of _ (by decide +kernel)) ggX6_between_X6_rank
set_option maxRecDepth 20000 in
theorem ggX6_between_X6_unwinds : GoodIn wsX6_between wsX6_unwinds := goodIn_r _ [10, 1, 2, 11, 3, 4, 5, 6, 12, 13, 14, 15, 16, 17, 18, 23, 24, 25, 26, 27, 28, 29, 30, 31, 32, 33, 34, 35, 36, 37, 38, 39, 40, 41, 42, 43, 44, 45, 46, 47, 48, 49, 50, 51, 52, 53, 54, 55, 56, 57, 58, 59, 60] (by decide +kernel) (by decide +kernel)
set_option maxRecDepth 20000 in
theorem gX6_between_X6_unwinds : GoodIn wsX6_between (wsV RX6 154 RX6 yX6_unwinds wsX6_unwinds) := goodIn_app (goodIn_of _ (by decide +kernel)) ggX6_between_X6_unwinds
set_option maxRecDepth 20000 in
theorem ggX6_between_X6_holds : GoodIn wsX6_between wsX6_holds := goodIn_r _ [22, 2, 1, 23, 24, 25, 26, 27, 28, 29, 30, 31, 32, 33, 34, 35, 36, 37, 38, 39, 40, 41, 42, 43, 44, 45, 46, 47, 48, 49, 50, 51, 52, 53, 54, 55, 56, 57, 58, 59, 60] (by decide +kernel) (by decide +kernel)
set_option maxRecDepth 20000 in
theorem gX6_between_X6_holds : GoodIn wsX6_between (wsV RX6 151 RX6 yX6_holds wsX6_holds) := goodIn_app (goodIn_of _ (by decide +kernel)) ggX6_between_X6_holds
theorem dX6_between_0 : decode cX6_between 0 = .ok (.aload_n 0, 1) := by decide +kernel
theorem dX6_between_1 : decode cX6_between 1 = .ok (.iload_n 1, 1) := by decide +kernel
theorem dX6_between_2 : decode cX6_between 2 = .ok (.invokestatic 141, 3) := by decide +kernel
theorem dX6_between_5 : decode cX6_between 5 = .ok (.iconst 4, 1) := by decide +kernel
theorem dX6_between_6 : decode cX6_between 6 = .ok (.if_icmp .ne 7, 3) := by decide +kernel
theorem dX6_between_9 : decode cX6_between 9 = .ok (.iconst 5, 1) := by decide +kernel
theorem dX6_between_10 : decode cX6_between 10 = .ok (.goto 7, 3) := by decide +kernel
theorem dX6_between_13 : decode cX6_between 13 = .ok (.iload_n 1, 1) := by decide +kernel
theorem dX6_between_14 : decode cX6_between 14 = .ok (.invokestatic 141, 3) := by decide +kernel
theorem dX6_between_17 : decode cX6_between 17 = .ok (.invokevirtual 154, 3) := by decide +kernel
theorem dX6_between_20 : decode cX6_between 20 = .ok (.iload_n 1, 1) := by decide +kernel
theorem dX6_between_21 : decode cX6_between 21 = .ok (.invokestatic 141, 3) := by decide +kernel
theorem dX6_between_24 : decode cX6_between 24 = .ok (.iconst 4, 1) := by decide +kernel
theorem dX6_between_25 : decode cX6_between 25 = .ok (.if_icmp .ne 30, 3) := by decide +kernel
theorem dX6_between_28 : decode cX6_between 28 = .ok (.aload_n 0, 1) := by decide +kernel
theorem dX6_between_29 : decode cX6_between 29 = .ok (.getfield 138, 3) := by decide +kernel
theorem dX6_between_32 : decode cX6_between 32 = .ok (.ifCond .le 23, 3) := by decide +kernel
theorem dX6_between_35 : decode cX6_between 35 = .ok (.aload_n 0, 1) := by decide +kernel
theorem dX6_between_36 : decode cX6_between 36 = .ok (.getfield 58, 3) := by decide +kernel
theorem dX6_between_39 : decode cX6_between 39 = .ok (.aload_n 0, 1) := by decide +kernel
theorem dX6_between_40 : decode cX6_between 40 = .ok (.getfield 138, 3) := by decide +kernel
theorem dX6_between_43 : decode cX6_between 43 = .ok (.iconst 1, 1) := by decide +kernel
theorem dX6_between_44 : decode cX6_between 44 = .ok (.isub, 1) := by decide +kernel
theorem dX6_between_45 : decode cX6_between 45 = .ok (.iaload, 1) := by decide +kernel
theorem dX6_between_46 : decode cX6_between 46 = .ok (.invokestatic 141, 3) := by decide +kernel
theorem dX6_between_49 : decode cX6_between 49 = .ok (.iconst 4, 1) := by decide +kernel
theorem dX6_between_50 : decode cX6_between 50 = .ok (.if_icmp .ne 5, 3) := by decide +kernel
theorem dX6_between_53 : decode cX6_between 53 = .ok (.iconst 0, 1) := by decide +kernel
theorem dX6_between_54 : decode cX6_between 54 = .ok (.ireturn, 1) := by decide +kernel
theorem dX6_between_55 : decode cX6_between 55 = .ok (.aload_n 0, 1) := by decide +kernel
theorem dX6_between_56 : decode cX6_between 56 = .ok (.iload_n 1, 1) := by decide +kernel
theorem dX6_between_57 : decode cX6_between 57 = .ok (.invokevirtual 151, 3) := by decide +kernel
theorem dX6_between_60 : decode cX6_between 60 = .ok (.iconst 1, 1) := by decide +kernel
theorem dX6_between_61 : decode cX6_between 61 = .ok (.ireturn, 1) := by decide +kernel
theorem dX6_signOf_0 : decode cX6_signOf 0 = .ok (.aload_n 0, 1) := by decide +kernel
theorem dX6_signOf_1 : decode cX6_signOf 1 = .ok (.getfield 125, 3) := by decide +kernel
theorem dX6_signOf_4 : decode cX6_signOf 4 = .ok (.iconst 4, 1) := by decide +kernel
theorem dX6_signOf_5 : decode cX6_signOf 5 = .ok (.if_icmp .ne 8, 3) := by decide +kernel
theorem dX6_signOf_8 : decode cX6_signOf 8 = .ok (.bipush 11, 2) := by decide +kernel
theorem dX6_signOf_10 : decode cX6_signOf 10 = .ok (.goto 87, 3) := by decide +kernel
theorem dX6_signOf_13 : decode cX6_signOf 13 = .ok (.aload_n 0, 1) := by decide +kernel
theorem dX6_signOf_14 : decode cX6_signOf 14 = .ok (.getfield 125, 3) := by decide +kernel
theorem dX6_signOf_17 : decode cX6_signOf 17 = .ok (.iconst 5, 1) := by decide +kernel
theorem dX6_signOf_18 : decode cX6_signOf 18 = .ok (.if_icmp .ne 8, 3) := by decide +kernel
theorem dX6_signOf_21 : decode cX6_signOf 21 = .ok (.bipush 12, 2) := by decide +kernel
theorem dX6_signOf_23 : decode cX6_signOf 23 = .ok (.goto 74, 3) := by decide +kernel
theorem dX6_signOf_26 : decode cX6_signOf 26 = .ok (.aload_n 0, 1) := by decide +kernel
theorem dX6_signOf_27 : decode cX6_signOf 27 = .ok (.getfield 125, 3) := by decide +kernel
theorem dX6_signOf_30 : decode cX6_signOf 30 = .ok (.bipush 60, 2) := by decide +kernel
theorem dX6_signOf_32 : decode cX6_signOf 32 = .ok (.if_icmp .ne 8, 3) := by decide +kernel
theorem dX6_signOf_35 : decode cX6_signOf 35 = .ok (.bipush 14, 2) := by decide +kernel
theorem dX6_signOf_37 : decode cX6_signOf 37 = .ok (.goto 60, 3) := by decide +kernel
theorem dX6_signOf_40 : decode cX6_signOf 40 = .ok (.aload_n 0, 1) := by decide +kernel
theorem dX6_signOf_41 : decode cX6_signOf 41 = .ok (.getfield 125, 3) := by decide +kernel
theorem dX6_signOf_44 : decode cX6_signOf 44 = .ok (.bipush 61, 2) := by decide +kernel
theorem dX6_signOf_46 : decode cX6_signOf 46 = .ok (.if_icmp .ne 8, 3) := by decide +kernel
theorem dX6_signOf_49 : decode cX6_signOf 49 = .ok (.bipush 15, 2) := by decide +kernel
theorem dX6_signOf_51 : decode cX6_signOf 51 = .ok (.goto 46, 3) := by decide +kernel
theorem dX6_signOf_54 : decode cX6_signOf 54 = .ok (.aload_n 0, 1) := by decide +kernel
theorem dX6_signOf_55 : decode cX6_signOf 55 = .ok (.getfield 125, 3) := by decide +kernel
theorem dX6_signOf_58 : decode cX6_signOf 58 = .ok (.bipush 43, 2) := by decide +kernel
theorem dX6_signOf_60 : decode cX6_signOf 60 = .ok (.if_icmp .ne 8, 3) := by decide +kernel
theorem dX6_signOf_63 : decode cX6_signOf 63 = .ok (.bipush 16, 2) := by decide +kernel
theorem dX6_signOf_65 : decode cX6_signOf 65 = .ok (.goto 32, 3) := by decide +kernel
theorem dX6_signOf_68 : decode cX6_signOf 68 = .ok (.aload_n 0, 1) := by decide +kernel
theorem dX6_signOf_69 : decode cX6_signOf 69 = .ok (.getfield 125, 3) := by decide +kernel
theorem dX6_signOf_72 : decode cX6_signOf 72 = .ok (.bipush 45, 2) := by decide +kernel
theorem dX6_signOf_74 : decode cX6_signOf 74 = .ok (.if_icmp .ne 8, 3) := by decide +kernel
theorem dX6_signOf_77 : decode cX6_signOf 77 = .ok (.bipush 17, 2) := by decide +kernel
theorem dX6_signOf_79 : decode cX6_signOf 79 = .ok (.goto 18, 3) := by decide +kernel
theorem dX6_signOf_82 : decode cX6_signOf 82 = .ok (.aload_n 0, 1) := by decide +kernel
theorem dX6_signOf_83 : decode cX6_signOf 83 = .ok (.getfield 125, 3) := by decide +kernel
theorem dX6_signOf_86 : decode cX6_signOf 86 = .ok (.bipush 42, 2) := by decide +kernel
theorem dX6_signOf_88 : decode cX6_signOf 88 = .ok (.if_icmp .ne 8, 3) := by decide +kernel
theorem dX6_signOf_91 : decode cX6_signOf 91 = .ok (.bipush 18, 2) := by decide +kernel
theorem dX6_signOf_93 : decode cX6_signOf 93 = .ok (.goto 4, 3) := by decide +kernel
theorem dX6_signOf_96 : decode cX6_signOf 96 = .ok (.iconst (-1), 1) := by decide +kernel
theorem dX6_signOf_97 : decode cX6_signOf 97 = .ok (.ireturn, 1) := by decide +kernel
set_option maxRecDepth 20000 in
theorem ggX6_eRead_X6_next : GoodIn wsX6_eRead wsX6_next := goodIn_r _ [10, 11, 12, 13, 14, 3, 5, 15, 16, 9, 17, 18, 19, 20, 21, 22, 54, 55, 56, 57, 58, 59, 60, 61, 62, 63, 64, 65, 66, 67, 68, 69, 70, 71, 72, 73, 74, 75, 76, 77, 78, 79, 80, 81, 82, 83, 84, 85, 86, 87, 88, 89, 90, 91] (by decide +kernel) (by decide +kernel)
set_option maxRecDepth 20000 in
theorem gX6_eRead_X6_next : GoodIn wsX6_eRead (wsV RX6 157 RX6 yX6_next wsX6_next) := goodIn_app (goodIn_of _ (by decide +kernel)) ggX6_eRead_X6_next
set_option maxRecDepth 20000 in
theorem ggX6_eRead_X6_puts : GoodIn wsX6_eRead wsX6_puts := goodIn_r _ [26, 27, 28, 29, 54, 55, 56, 57, 58, 59, 60, 61, 62, 63, 64, 65, 66, 67, 68, 69, 70, 71, 72, 73, 74, 75, 76, 77, 78, 79, 80, 81, 82, 83, 84, 85, 86, 87, 88, 89, 90, 91] (by decide +kernel) (by decide +kernel)
set_option maxRecDepth 20000 in
theorem gX6_eRead_X6_puts : GoodIn wsX6_eRead (wsV RX6 147 RX6 yX6_puts wsX6_puts) := goodIn_app (goodIn_of _ (by decide +kernel)) ggX6_eRead_X6_puts
set_option maxRecDepth 20000 in
theorem ggX6_eRead_X6_unwinds : GoodIn wsX6_eRead wsX6_unwinds := goodIn_r _ [33, 1, 34, 2, 35, 36, 9, 37, 23, 24, 25, 26, 27, 28, 29, 54, 55, 56, 57, 58, 59, 60, 61, 62, 63, 64, 65, 66, 67, 68, 69, 70, 71, 72, 73, 74, 75, 76, 77, 78, 79, 80, 81, 82, 83, 84, 85, 86, 87, 88, 89, 90, 91] (by decide +kernel) (by decide +kernel)
set_option maxRecDepth 20000 in
theorem gX6_eRead_X6_unwinds : GoodIn wsX6_eRead (wsV RX6 154 RX6 yX6_unwinds wsX6_unwinds) := goodIn_app (goodIn_of _ (by decide +kernel)) ggX6_eRead_X6_unwinds
set_option maxRecDepth 20000 in
theorem ggX6_eRead_X6_opensOne : GoodIn wsX6_eRead wsX6_opensOne := goodIn_r _ [41, 2, 42, 43, 44, 9, 45, 34, 1, 54, 55, 56, 57, 58, 59, 60, 61, 62, 63, 64, 65, 66, 67, 68, 69, 70, 71, 72, 73, 74, 75, 76, 77, 78, 79, 80, 81, 82, 83, 84, 85, 86, 87, 88, 89, 90, 91] (by decide +kernel) (by decide +kernel)
set_option maxRecDepth 20000 in
theorem gX6_eRead_X6_opensOne : GoodIn wsX6_eRead (wsV RX6 161 RX6 yX6_opensOne wsX6_opensOne) := goodIn_app (goodIn_of _ (by decide +kernel)) ggX6_eRead_X6_opensOne
set_option maxRecDepth 20000 in
theorem ggX6_eRead_X6_signOf : GoodIn wsX6_eRead wsX6_signOf := goodIn_r _ [49, 3, 54, 55, 56, 57, 58, 59, 60, 61, 62, 63, 64, 65, 66, 67, 68, 69, 70, 71, 72, 73, 74, 75, 76, 77, 78, 79, 80, 81, 82, 83, 84, 85, 86, 87, 88, 89, 90, 91] (by decide +kernel) (by decide +kernel)
set_option maxRecDepth 20000 in
theorem gX6_eRead_X6_signOf : GoodIn wsX6_eRead (wsV RX6 164 RX6 yX6_signOf wsX6_signOf) := goodIn_app (goodIn_of _ (by decide +kernel)) ggX6_eRead_X6_signOf
set_option maxRecDepth 20000 in
theorem ggX6_eRead_X6_between : GoodIn wsX6_eRead wsX6_between := goodIn_r _ [53, 1, 34, 35, 36, 9, 37, 30, 31, 32, 33, 2, 23, 24, 25, 26, 27, 28, 29, 42, 43, 44, 45, 54, 55, 56, 57, 58, 59, 60, 61, 62, 63, 64, 65, 66, 67, 68, 69, 70, 71, 72, 73, 74, 75, 76, 77, 78, 79, 80, 81, 82, 83, 84, 85, 86, 87, 88, 89, 90, 91] (by decide +kernel) (by decide +kernel)
set_option maxRecDepth 20000 in
theorem gX6_eRead_X6_between : GoodIn wsX6_eRead (wsV RX6 167 RX6 yX6_between wsX6_between) := goodIn_app (goodIn_of _ (by decide +kernel)) ggX6_eRead_X6_between
theorem dX6_eRead_0 : decode cX6_eRead 0 = .ok (.aload_n 0, 1) := by decide +kernel
theorem dX6_eRead_1 : decode cX6_eRead 1 = .ok (.iconst 0, 1) := by decide +kernel
theorem dX6_eRead_2 : decode cX6_eRead 2 = .ok (.putfield 138, 3) := by decide +kernel
theorem dX6_eRead_5 : decode cX6_eRead 5 = .ok (.aload_n 0, 1) := by decide +kernel
theorem dX6_eRead_6 : decode cX6_eRead 6 = .ok (.iconst 0, 1) := by decide +kernel
theorem dX6_eRead_7 : decode cX6_eRead 7 = .ok (.putfield 144, 3) := by decide +kernel
theorem dX6_eRead_10 : decode cX6_eRead 10 = .ok (.iconst 1, 1) := by decide +kernel
theorem dX6_eRead_11 : decode cX6_eRead 11 = .ok (.istore_n 1, 1) := by decide +kernel
theorem dX6_eRead_12 : decode cX6_eRead 12 = .ok (.iconst 1, 1) := by decide +kernel
theorem dX6_eRead_13 : decode cX6_eRead 13 = .ok (.istore_n 2, 1) := by decide +kernel
theorem dX6_eRead_14 : decode cX6_eRead 14 = .ok (.aload_n 0, 1) := by decide +kernel
theorem dX6_eRead_15 : decode cX6_eRead 15 = .ok (.invokevirtual 157, 3) := by decide +kernel
theorem dX6_eRead_18 : decode cX6_eRead 18 = .ok (.iload_n 1, 1) := by decide +kernel
theorem dX6_eRead_19 : decode cX6_eRead 19 = .ok (.ifCond .eq 131, 3) := by decide +kernel
theorem dX6_eRead_22 : decode cX6_eRead 22 = .ok (.aload_n 0, 1) := by decide +kernel
theorem dX6_eRead_23 : decode cX6_eRead 23 = .ok (.getfield 125, 3) := by decide +kernel
theorem dX6_eRead_26 : decode cX6_eRead 26 = .ok (.iconst 1, 1) := by decide +kernel
theorem dX6_eRead_27 : decode cX6_eRead 27 = .ok (.if_icmp .eq 11, 3) := by decide +kernel
theorem dX6_eRead_30 : decode cX6_eRead 30 = .ok (.aload_n 0, 1) := by decide +kernel
theorem dX6_eRead_31 : decode cX6_eRead 31 = .ok (.getfield 125, 3) := by decide +kernel
theorem dX6_eRead_34 : decode cX6_eRead 34 = .ok (.iconst 2, 1) := by decide +kernel
theorem dX6_eRead_35 : decode cX6_eRead 35 = .ok (.if_icmp .ne 40, 3) := by decide +kernel
theorem dX6_eRead_38 : decode cX6_eRead 38 = .ok (.aload_n 0, 1) := by decide +kernel
theorem dX6_eRead_39 : decode cX6_eRead 39 = .ok (.aload_n 0, 1) := by decide +kernel
theorem dX6_eRead_40 : decode cX6_eRead 40 = .ok (.getfield 125, 3) := by decide +kernel
theorem dX6_eRead_43 : decode cX6_eRead 43 = .ok (.iconst 1, 1) := by decide +kernel
theorem dX6_eRead_44 : decode cX6_eRead 44 = .ok (.if_icmp .ne 13, 3) := by decide +kernel
theorem dX6_eRead_47 : decode cX6_eRead 47 = .ok (.ldc 160, 2) := by decide +kernel
theorem dX6_eRead_49 : decode cX6_eRead 49 = .ok (.aload_n 0, 1) := by decide +kernel
theorem dX6_eRead_50 : decode cX6_eRead 50 = .ok (.getfield 128, 3) := by decide +kernel
theorem dX6_eRead_53 : decode cX6_eRead 53 = .ok (.iadd, 1) := by decide +kernel
theorem dX6_eRead_54 : decode cX6_eRead 54 = .ok (.goto 7, 3) := by decide +kernel
theorem dX6_eRead_57 : decode cX6_eRead 57 = .ok (.aload_n 0, 1) := by decide +kernel
theorem dX6_eRead_58 : decode cX6_eRead 58 = .ok (.getfield 128, 3) := by decide +kernel
theorem dX6_eRead_61 : decode cX6_eRead 61 = .ok (.invokevirtual 147, 3) := by decide +kernel
theorem dX6_eRead_64 : decode cX6_eRead 64 = .ok (.aload_n 0, 1) := by decide +kernel
theorem dX6_eRead_65 : decode cX6_eRead 65 = .ok (.bipush 7, 2) := by decide +kernel
theorem dX6_eRead_67 : decode cX6_eRead 67 = .ok (.invokevirtual 154, 3) := by decide +kernel
theorem dX6_eRead_70 : decode cX6_eRead 70 = .ok (.iconst 0, 1) := by decide +kernel
theorem dX6_eRead_71 : decode cX6_eRead 71 = .ok (.istore_n 1, 1) := by decide +kernel
theorem dX6_eRead_72 : decode cX6_eRead 72 = .ok (.goto (-58), 3) := by decide +kernel
theorem dX6_eRead_75 : decode cX6_eRead 75 = .ok (.aload_n 0, 1) := by decide +kernel
theorem dX6_eRead_76 : decode cX6_eRead 76 = .ok (.getfield 125, 3) := by decide +kernel
theorem dX6_eRead_79 : decode cX6_eRead 79 = .ok (.bipush 6, 2) := by decide +kernel
theorem dX6_eRead_81 : decode cX6_eRead 81 = .ok (.if_icmp .ne 18, 3) := by decide +kernel
theorem dX6_eRead_84 : decode cX6_eRead 84 = .ok (.iload_n 2, 1) := by decide +kernel
theorem dX6_eRead_85 : decode cX6_eRead 85 = .ok (.ifCond .eq 14, 3) := by decide +kernel
theorem dX6_eRead_88 : decode cX6_eRead 88 = .ok (.aload_n 0, 1) := by decide +kernel
theorem dX6_eRead_89 : decode cX6_eRead 89 = .ok (.bipush 13, 2) := by decide +kernel
theorem dX6_eRead_91 : decode cX6_eRead 91 = .ok (.invokevirtual 161, 3) := by decide +kernel
theorem dX6_eRead_94 : decode cX6_eRead 94 = .ok (.ifCond .ne (-80), 3) := by decide +kernel
theorem dX6_eRead_97 : decode cX6_eRead 97 = .ok (.iconst 0, 1) := by decide +kernel
theorem dX6_eRead_98 : decode cX6_eRead 98 = .ok (.ireturn, 1) := by decide +kernel
theorem dX6_eRead_99 : decode cX6_eRead 99 = .ok (.aload_n 0, 1) := by decide +kernel
theorem dX6_eRead_100 : decode cX6_eRead 100 = .ok (.getfield 125, 3) := by decide +kernel
theorem dX6_eRead_103 : decode cX6_eRead 103 = .ok (.bipush 45, 2) := by decide +kernel
theorem dX6_eRead_105 : decode cX6_eRead 105 = .ok (.if_icmp .ne 19, 3) := by decide +kernel
theorem dX6_eRead_108 : decode cX6_eRead 108 = .ok (.aload_n 0, 1) := by decide +kernel
theorem dX6_eRead_109 : decode cX6_eRead 109 = .ok (.bipush 19, 2) := by decide +kernel
theorem dX6_eRead_111 : decode cX6_eRead 111 = .ok (.invokevirtual 161, 3) := by decide +kernel
theorem dX6_eRead_114 : decode cX6_eRead 114 = .ok (.ifCond .ne 5, 3) := by decide +kernel
theorem dX6_eRead_117 : decode cX6_eRead 117 = .ok (.iconst 0, 1) := by decide +kernel
theorem dX6_eRead_118 : decode cX6_eRead 118 = .ok (.ireturn, 1) := by decide +kernel
theorem dX6_eRead_119 : decode cX6_eRead 119 = .ok (.iconst 0, 1) := by decide +kernel
theorem dX6_eRead_120 : decode cX6_eRead 120 = .ok (.istore_n 2, 1) := by decide +kernel
theorem dX6_eRead_121 : decode cX6_eRead 121 = .ok (.goto (-107), 3) := by decide +kernel
theorem dX6_eRead_124 : decode cX6_eRead 124 = .ok (.aload_n 0, 1) := by decide +kernel
theorem dX6_eRead_125 : decode cX6_eRead 125 = .ok (.getfield 125, 3) := by decide +kernel
theorem dX6_eRead_128 : decode cX6_eRead 128 = .ok (.bipush 40, 2) := by decide +kernel
theorem dX6_eRead_130 : decode cX6_eRead 130 = .ok (.if_icmp .ne 18, 3) := by decide +kernel
theorem dX6_eRead_133 : decode cX6_eRead 133 = .ok (.aload_n 0, 1) := by decide +kernel
theorem dX6_eRead_134 : decode cX6_eRead 134 = .ok (.iconst 0, 1) := by decide +kernel
theorem dX6_eRead_135 : decode cX6_eRead 135 = .ok (.invokevirtual 161, 3) := by decide +kernel
theorem dX6_eRead_138 : decode cX6_eRead 138 = .ok (.ifCond .ne 5, 3) := by decide +kernel
theorem dX6_eRead_141 : decode cX6_eRead 141 = .ok (.iconst 0, 1) := by decide +kernel
theorem dX6_eRead_142 : decode cX6_eRead 142 = .ok (.ireturn, 1) := by decide +kernel
theorem dX6_eRead_143 : decode cX6_eRead 143 = .ok (.iconst 1, 1) := by decide +kernel
theorem dX6_eRead_144 : decode cX6_eRead 144 = .ok (.istore_n 2, 1) := by decide +kernel
theorem dX6_eRead_145 : decode cX6_eRead 145 = .ok (.goto (-131), 3) := by decide +kernel
theorem dX6_eRead_148 : decode cX6_eRead 148 = .ok (.iconst 0, 1) := by decide +kernel
theorem dX6_eRead_149 : decode cX6_eRead 149 = .ok (.ireturn, 1) := by decide +kernel
theorem dX6_eRead_150 : decode cX6_eRead 150 = .ok (.aload_n 0, 1) := by decide +kernel
theorem dX6_eRead_151 : decode cX6_eRead 151 = .ok (.getfield 125, 3) := by decide +kernel
theorem dX6_eRead_154 : decode cX6_eRead 154 = .ok (.bipush 59, 2) := by decide +kernel
theorem dX6_eRead_156 : decode cX6_eRead 156 = .ok (.if_icmp .ne 21, 3) := by decide +kernel
theorem dX6_eRead_159 : decode cX6_eRead 159 = .ok (.aload_n 0, 1) := by decide +kernel
theorem dX6_eRead_160 : decode cX6_eRead 160 = .ok (.iconst 1, 1) := by decide +kernel
theorem dX6_eRead_161 : decode cX6_eRead 161 = .ok (.invokevirtual 154, 3) := by decide +kernel
theorem dX6_eRead_164 : decode cX6_eRead 164 = .ok (.aload_n 0, 1) := by decide +kernel
theorem dX6_eRead_165 : decode cX6_eRead 165 = .ok (.getfield 138, 3) := by decide +kernel
theorem dX6_eRead_168 : decode cX6_eRead 168 = .ok (.ifCond .ne 7, 3) := by decide +kernel
theorem dX6_eRead_171 : decode cX6_eRead 171 = .ok (.iconst 1, 1) := by decide +kernel
theorem dX6_eRead_172 : decode cX6_eRead 172 = .ok (.goto 4, 3) := by decide +kernel
theorem dX6_eRead_175 : decode cX6_eRead 175 = .ok (.iconst 0, 1) := by decide +kernel
theorem dX6_eRead_176 : decode cX6_eRead 176 = .ok (.ireturn, 1) := by decide +kernel
theorem dX6_eRead_177 : decode cX6_eRead 177 = .ok (.aload_n 0, 1) := by decide +kernel
theorem dX6_eRead_178 : decode cX6_eRead 178 = .ok (.getfield 125, 3) := by decide +kernel
theorem dX6_eRead_181 : decode cX6_eRead 181 = .ok (.bipush 41, 2) := by decide +kernel
theorem dX6_eRead_183 : decode cX6_eRead 183 = .ok (.if_icmp .ne 46, 3) := by decide +kernel
theorem dX6_eRead_186 : decode cX6_eRead 186 = .ok (.aload_n 0, 1) := by decide +kernel
theorem dX6_eRead_187 : decode cX6_eRead 187 = .ok (.iconst 1, 1) := by decide +kernel
theorem dX6_eRead_188 : decode cX6_eRead 188 = .ok (.invokevirtual 154, 3) := by decide +kernel
theorem dX6_eRead_191 : decode cX6_eRead 191 = .ok (.aload_n 0, 1) := by decide +kernel
theorem dX6_eRead_192 : decode cX6_eRead 192 = .ok (.getfield 138, 3) := by decide +kernel
theorem dX6_eRead_195 : decode cX6_eRead 195 = .ok (.ifCond .ne 5, 3) := by decide +kernel
theorem dX6_eRead_198 : decode cX6_eRead 198 = .ok (.iconst 0, 1) := by decide +kernel
theorem dX6_eRead_199 : decode cX6_eRead 199 = .ok (.ireturn, 1) := by decide +kernel
theorem dX6_eRead_200 : decode cX6_eRead 200 = .ok (.aload_n 0, 1) := by decide +kernel
theorem dX6_eRead_201 : decode cX6_eRead 201 = .ok (.dup, 1) := by decide +kernel
theorem dX6_eRead_202 : decode cX6_eRead 202 = .ok (.getfield 138, 3) := by decide +kernel
theorem dX6_eRead_205 : decode cX6_eRead 205 = .ok (.iconst 1, 1) := by decide +kernel
theorem dX6_eRead_206 : decode cX6_eRead 206 = .ok (.isub, 1) := by decide +kernel
theorem dX6_eRead_207 : decode cX6_eRead 207 = .ok (.putfield 138, 3) := by decide +kernel
theorem dX6_eRead_210 : decode cX6_eRead 210 = .ok (.aload_n 0, 1) := by decide +kernel
theorem dX6_eRead_211 : decode cX6_eRead 211 = .ok (.dup, 1) := by decide +kernel
theorem dX6_eRead_212 : decode cX6_eRead 212 = .ok (.getfield 144, 3) := by decide +kernel
theorem dX6_eRead_215 : decode cX6_eRead 215 = .ok (.iconst 1, 1) := by decide +kernel
theorem dX6_eRead_216 : decode cX6_eRead 216 = .ok (.isub, 1) := by decide +kernel
theorem dX6_eRead_217 : decode cX6_eRead 217 = .ok (.putfield 144, 3) := by decide +kernel
theorem dX6_eRead_220 : decode cX6_eRead 220 = .ok (.aload_n 0, 1) := by decide +kernel
theorem dX6_eRead_221 : decode cX6_eRead 221 = .ok (.bipush 7, 2) := by decide +kernel
theorem dX6_eRead_223 : decode cX6_eRead 223 = .ok (.invokevirtual 154, 3) := by decide +kernel
theorem dX6_eRead_226 : decode cX6_eRead 226 = .ok (.goto (-212), 3) := by decide +kernel
theorem dX6_eRead_229 : decode cX6_eRead 229 = .ok (.aload_n 0, 1) := by decide +kernel
theorem dX6_eRead_230 : decode cX6_eRead 230 = .ok (.invokevirtual 164, 3) := by decide +kernel
theorem dX6_eRead_233 : decode cX6_eRead 233 = .ok (.istore_n 3, 1) := by decide +kernel
theorem dX6_eRead_234 : decode cX6_eRead 234 = .ok (.iload_n 3, 1) := by decide +kernel
theorem dX6_eRead_235 : decode cX6_eRead 235 = .ok (.iconst (-1), 1) := by decide +kernel
theorem dX6_eRead_236 : decode cX6_eRead 236 = .ok (.if_icmp .eq 11, 3) := by decide +kernel
theorem dX6_eRead_239 : decode cX6_eRead 239 = .ok (.aload_n 0, 1) := by decide +kernel
theorem dX6_eRead_240 : decode cX6_eRead 240 = .ok (.iload_n 3, 1) := by decide +kernel
theorem dX6_eRead_241 : decode cX6_eRead 241 = .ok (.invokevirtual 167, 3) := by decide +kernel
theorem dX6_eRead_244 : decode cX6_eRead 244 = .ok (.ifCond .ne 5, 3) := by decide +kernel
theorem dX6_eRead_247 : decode cX6_eRead 247 = .ok (.iconst 0, 1) := by decide +kernel
theorem dX6_eRead_248 : decode cX6_eRead 248 = .ok (.ireturn, 1) := by decide +kernel
theorem dX6_eRead_249 : decode cX6_eRead 249 = .ok (.iconst 1, 1) := by decide +kernel
theorem dX6_eRead_250 : decode cX6_eRead 250 = .ok (.istore_n 1, 1) := by decide +kernel
theorem dX6_eRead_251 : decode cX6_eRead 251 = .ok (.iload_n 3, 1) := by decide +kernel
theorem dX6_eRead_252 : decode cX6_eRead 252 = .ok (.bipush 12, 2) := by decide +kernel
theorem dX6_eRead_254 : decode cX6_eRead 254 = .ok (.if_icmp .gt 7, 3) := by decide +kernel
theorem dX6_eRead_257 : decode cX6_eRead 257 = .ok (.iconst 1, 1) := by decide +kernel
theorem dX6_eRead_258 : decode cX6_eRead 258 = .ok (.goto 4, 3) := by decide +kernel
theorem dX6_eRead_261 : decode cX6_eRead 261 = .ok (.iconst 0, 1) := by decide +kernel
theorem dX6_eRead_262 : decode cX6_eRead 262 = .ok (.istore_n 2, 1) := by decide +kernel
theorem dX6_eRead_263 : decode cX6_eRead 263 = .ok (.goto (-249), 3) := by decide +kernel
set_option maxRecDepth 20000 in
theorem ggX6_text_X6_next : GoodIn wsX6_text wsX6_next := goodIn_r _ [13, 2, 7, 14, 8, 4, 5, 15, 16, 12, 17, 18, 19, 20, 21, 22, 59, 60, 61, 62, 63, 64, 65, 66, 67, 68, 69, 70, 71, 72, 73, 74, 75, 76, 77, 78, 79, 80, 81, 82, 83, 84, 85, 86, 87, 88, 89, 90, 91, 92, 93, 94, 95, 96] (by decide +kernel) (by decide +kernel)
set_option maxRecDepth 20000 in
theorem gX6_text_X6_next : GoodIn wsX6_text (wsV RX6 157 RX6 yX6_next wsX6_next) := goodIn_app (goodIn_of _ (by decide +kernel)) ggX6_text_X6_next
set_option maxRecDepth 20000 in
theorem ggX6_text_X6_eRead : GoodIn wsX6_text wsX6_eRead := goodIn_r _ [26, 27, 28, 4, 29, 5, 9, 10, 11, 12, 13, 2, 7, 14, 8, 15, 16, 17, 18, 19, 20, 21, 22, 30, 31, 32, 33, 34, 1, 3, 35, 36, 37, 38, 39, 40, 41, 42, 43, 44, 45, 46, 47, 48, 49, 50, 51, 52, 53, 54, 55, 56, 57, 58, 59, 60, 61, 62, 63, 64, 65, 66, 67, 68, 69, 70, 71, 72, 73, 74, 75, 76, 77, 78, 79, 80, 81, 82, 83, 84, 85, 86, 87, 88, 89, 90, 91, 92, 93, 94, 95, 96] (by decide +kernel) (by decide +kernel)
set_option maxRecDepth 20000 in
theorem gX6_text_X6_eRead : GoodIn wsX6_text (wsV RX6 170 RX6 yX6_eRead wsX6_eRead) := goodIn_app (goodIn_of _ (by decide +kernel)) ggX6_text_X6_eRead
theorem dX6_text_0 : decode cX6_text 0 = .ok (.aload_n 0, 1) := by decide +kernel
theorem dX6_text_1 : decode cX6_text 1 = .ok (.getfield 99, 3) := by decide +kernel
theorem dX6_text_4 : decode cX6_text 4 = .ok (.bipush 6, 2) := by decide +kernel
theorem dX6_text_6 : decode cX6_text 6 = .ok (.if_icmp .ne 6, 3) := by decide +kernel
theorem dX6_text_9 : decode cX6_text 9 = .ok (.bipush (-4), 2) := by decide +kernel
theorem dX6_text_11 : decode cX6_text 11 = .ok (.ireturn, 1) := by decide +kernel
theorem dX6_text_12 : decode cX6_text 12 = .ok (.aload_n 0, 1) := by decide +kernel
theorem dX6_text_13 : decode cX6_text 13 = .ok (.iconst 0, 1) := by decide +kernel
theorem dX6_text_14 : decode cX6_text 14 = .ok (.putfield 119, 3) := by decide +kernel
theorem dX6_text_17 : decode cX6_text 17 = .ok (.aload_n 0, 1) := by decide +kernel
theorem dX6_text_18 : decode cX6_text 18 = .ok (.iconst 0, 1) := by decide +kernel
theorem dX6_text_19 : decode cX6_text 19 = .ok (.putfield 135, 3) := by decide +kernel
theorem dX6_text_22 : decode cX6_text 22 = .ok (.iconst 1, 1) := by decide +kernel
theorem dX6_text_23 : decode cX6_text 23 = .ok (.istore_n 1, 1) := by decide +kernel
theorem dX6_text_24 : decode cX6_text 24 = .ok (.iconst 0, 1) := by decide +kernel
theorem dX6_text_25 : decode cX6_text 25 = .ok (.istore_n 2, 1) := by decide +kernel
theorem dX6_text_26 : decode cX6_text 26 = .ok (.iload_n 2, 1) := by decide +kernel
theorem dX6_text_27 : decode cX6_text 27 = .ok (.iconst 3, 1) := by decide +kernel
theorem dX6_text_28 : decode cX6_text 28 = .ok (.if_icmp .ge 73, 3) := by decide +kernel
theorem dX6_text_31 : decode cX6_text 31 = .ok (.iload_n 1, 1) := by decide +kernel
theorem dX6_text_32 : decode cX6_text 32 = .ok (.ifCond .eq 69, 3) := by decide +kernel
theorem dX6_text_35 : decode cX6_text 35 = .ok (.aload_n 0, 1) := by decide +kernel
theorem dX6_text_36 : decode cX6_text 36 = .ok (.invokevirtual 157, 3) := by decide +kernel
theorem dX6_text_39 : decode cX6_text 39 = .ok (.aload_n 0, 1) := by decide +kernel
theorem dX6_text_40 : decode cX6_text 40 = .ok (.getfield 125, 3) := by decide +kernel
theorem dX6_text_43 : decode cX6_text 43 = .ok (.iconst 3, 1) := by decide +kernel
theorem dX6_text_44 : decode cX6_text 44 = .ok (.if_icmp .ne 15, 3) := by decide +kernel
theorem dX6_text_47 : decode cX6_text 47 = .ok (.aload_n 0, 1) := by decide +kernel
theorem dX6_text_48 : decode cX6_text 48 = .ok (.getfield 128, 3) := by decide +kernel
theorem dX6_text_51 : decode cX6_text 51 = .ok (.iload_n 2, 1) := by decide +kernel
theorem dX6_text_52 : decode cX6_text 52 = .ok (.if_icmp .ne 7, 3) := by decide +kernel
theorem dX6_text_55 : decode cX6_text 55 = .ok (.iconst 1, 1) := by decide +kernel
theorem dX6_text_56 : decode cX6_text 56 = .ok (.goto 4, 3) := by decide +kernel
theorem dX6_text_59 : decode cX6_text 59 = .ok (.iconst 0, 1) := by decide +kernel
theorem dX6_text_60 : decode cX6_text 60 = .ok (.istore_n 1, 1) := by decide +kernel
theorem dX6_text_61 : decode cX6_text 61 = .ok (.aload_n 0, 1) := by decide +kernel
theorem dX6_text_62 : decode cX6_text 62 = .ok (.getfield 34, 3) := by decide +kernel
theorem dX6_text_65 : decode cX6_text 65 = .ok (.iconst 4, 1) := by decide +kernel
theorem dX6_text_66 : decode cX6_text 66 = .ok (.aload_n 0, 1) := by decide +kernel
theorem dX6_text_67 : decode cX6_text 67 = .ok (.getfield 99, 3) := by decide +kernel
theorem dX6_text_70 : decode cX6_text 70 = .ok (.imul, 1) := by decide +kernel
theorem dX6_text_71 : decode cX6_text 71 = .ok (.iload_n 2, 1) := by decide +kernel
theorem dX6_text_72 : decode cX6_text 72 = .ok (.iadd, 1) := by decide +kernel
theorem dX6_text_73 : decode cX6_text 73 = .ok (.aload_n 0, 1) := by decide +kernel
theorem dX6_text_74 : decode cX6_text 74 = .ok (.getfield 135, 3) := by decide +kernel
theorem dX6_text_77 : decode cX6_text 77 = .ok (.iastore, 1) := by decide +kernel
theorem dX6_text_78 : decode cX6_text 78 = .ok (.iload_n 1, 1) := by decide +kernel
theorem dX6_text_79 : decode cX6_text 79 = .ok (.ifCond .eq 14, 3) := by decide +kernel
theorem dX6_text_82 : decode cX6_text 82 = .ok (.aload_n 0, 1) := by decide +kernel
theorem dX6_text_83 : decode cX6_text 83 = .ok (.invokevirtual 170, 3) := by decide +kernel
theorem dX6_text_86 : decode cX6_text 86 = .ok (.ifCond .eq 7, 3) := by decide +kernel
theorem dX6_text_89 : decode cX6_text 89 = .ok (.iconst 1, 1) := by decide +kernel
theorem dX6_text_90 : decode cX6_text 90 = .ok (.goto 4, 3) := by decide +kernel
theorem dX6_text_93 : decode cX6_text 93 = .ok (.iconst 0, 1) := by decide +kernel
theorem dX6_text_94 : decode cX6_text 94 = .ok (.istore_n 1, 1) := by decide +kernel
theorem dX6_text_95 : decode cX6_text 95 = .ok (.iinc 2 1, 3) := by decide +kernel
theorem dX6_text_98 : decode cX6_text 98 = .ok (.goto (-72), 3) := by decide +kernel
theorem dX6_text_101 : decode cX6_text 101 = .ok (.iload_n 1, 1) := by decide +kernel
theorem dX6_text_102 : decode cX6_text 102 = .ok (.ifCond .eq 20, 3) := by decide +kernel
theorem dX6_text_105 : decode cX6_text 105 = .ok (.aload_n 0, 1) := by decide +kernel
theorem dX6_text_106 : decode cX6_text 106 = .ok (.invokevirtual 157, 3) := by decide +kernel
theorem dX6_text_109 : decode cX6_text 109 = .ok (.aload_n 0, 1) := by decide +kernel
theorem dX6_text_110 : decode cX6_text 110 = .ok (.getfield 125, 3) := by decide +kernel
theorem dX6_text_113 : decode cX6_text 113 = .ok (.ifCond .ne 7, 3) := by decide +kernel
theorem dX6_text_116 : decode cX6_text 116 = .ok (.iconst 1, 1) := by decide +kernel
theorem dX6_text_117 : decode cX6_text 117 = .ok (.goto 4, 3) := by decide +kernel
theorem dX6_text_120 : decode cX6_text 120 = .ok (.iconst 0, 1) := by decide +kernel
theorem dX6_text_121 : decode cX6_text 121 = .ok (.istore_n 1, 1) := by decide +kernel
theorem dX6_text_122 : decode cX6_text 122 = .ok (.aload_n 0, 1) := by decide +kernel
theorem dX6_text_123 : decode cX6_text 123 = .ok (.getfield 34, 3) := by decide +kernel
theorem dX6_text_126 : decode cX6_text 126 = .ok (.iconst 4, 1) := by decide +kernel
theorem dX6_text_127 : decode cX6_text 127 = .ok (.aload_n 0, 1) := by decide +kernel
theorem dX6_text_128 : decode cX6_text 128 = .ok (.getfield 99, 3) := by decide +kernel
theorem dX6_text_131 : decode cX6_text 131 = .ok (.imul, 1) := by decide +kernel
theorem dX6_text_132 : decode cX6_text 132 = .ok (.iconst 3, 1) := by decide +kernel
theorem dX6_text_133 : decode cX6_text 133 = .ok (.iadd, 1) := by decide +kernel
theorem dX6_text_134 : decode cX6_text 134 = .ok (.aload_n 0, 1) := by decide +kernel
theorem dX6_text_135 : decode cX6_text 135 = .ok (.getfield 135, 3) := by decide +kernel
theorem dX6_text_138 : decode cX6_text 138 = .ok (.iastore, 1) := by decide +kernel
theorem dX6_text_139 : decode cX6_text 139 = .ok (.aload_n 0, 1) := by decide +kernel
theorem dX6_text_140 : decode cX6_text 140 = .ok (.iconst 0, 1) := by decide +kernel
theorem dX6_text_141 : decode cX6_text 141 = .ok (.putfield 70, 3) := by decide +kernel
theorem dX6_text_144 : decode cX6_text 144 = .ok (.iload_n 1, 1) := by decide +kernel
theorem dX6_text_145 : decode cX6_text 145 = .ok (.ifCond .ne 11, 3) := by decide +kernel
theorem dX6_text_148 : decode cX6_text 148 = .ok (.bipush (-100), 2) := by decide +kernel
theorem dX6_text_150 : decode cX6_text 150 = .ok (.aload_n 0, 1) := by decide +kernel
theorem dX6_text_151 : decode cX6_text 151 = .ok (.getfield 122, 3) := by decide +kernel
theorem dX6_text_154 : decode cX6_text 154 = .ok (.isub, 1) := by decide +kernel
theorem dX6_text_155 : decode cX6_text 155 = .ok (.ireturn, 1) := by decide +kernel
theorem dX6_text_156 : decode cX6_text 156 = .ok (.aload_n 0, 1) := by decide +kernel
theorem dX6_text_157 : decode cX6_text 157 = .ok (.dup, 1) := by decide +kernel
theorem dX6_text_158 : decode cX6_text 158 = .ok (.getfield 99, 3) := by decide +kernel
theorem dX6_text_161 : decode cX6_text 161 = .ok (.iconst 1, 1) := by decide +kernel
theorem dX6_text_162 : decode cX6_text 162 = .ok (.iadd, 1) := by decide +kernel
theorem dX6_text_163 : decode cX6_text 163 = .ok (.putfield 99, 3) := by decide +kernel
theorem dX6_text_166 : decode cX6_text 166 = .ok (.aload_n 0, 1) := by decide +kernel
theorem dX6_text_167 : decode cX6_text 167 = .ok (.getfield 99, 3) := by decide +kernel
theorem dX6_text_170 : decode cX6_text 170 = .ok (.iconst 1, 1) := by decide +kernel
theorem dX6_text_171 : decode cX6_text 171 = .ok (.isub, 1) := by decide +kernel
theorem dX6_text_172 : decode cX6_text 172 = .ok (.ireturn, 1) := by decide +kernel
theorem dX6_two_0 : decode cX6_two 0 = .ok (.iload_n 0, 1) := by decide +kernel
theorem dX6_two_1 : decode cX6_two 1 = .ok (.tableswitch 101 11 17 #[43, 57, 101, 71, 82, 93, 97], 43) := by decide +kernel
theorem dX6_two_44 : decode cX6_two 44 = .ok (.iload_n 1, 1) := by decide +kernel
theorem dX6_two_45 : decode cX6_two 45 = .ok (.ifCond .ne 7, 3) := by decide +kernel
theorem dX6_two_48 : decode cX6_two 48 = .ok (.iload_n 2, 1) := by decide +kernel
theorem dX6_two_49 : decode cX6_two 49 = .ok (.ifCond .eq 7, 3) := by decide +kernel
theorem dX6_two_52 : decode cX6_two 52 = .ok (.iconst 1, 1) := by decide +kernel
theorem dX6_two_53 : decode cX6_two 53 = .ok (.goto 4, 3) := by decide +kernel
theorem dX6_two_56 : decode cX6_two 56 = .ok (.iconst 0, 1) := by decide +kernel
theorem dX6_two_57 : decode cX6_two 57 = .ok (.ireturn, 1) := by decide +kernel
theorem dX6_two_58 : decode cX6_two 58 = .ok (.iload_n 1, 1) := by decide +kernel
theorem dX6_two_59 : decode cX6_two 59 = .ok (.ifCond .eq 11, 3) := by decide +kernel
theorem dX6_two_62 : decode cX6_two 62 = .ok (.iload_n 2, 1) := by decide +kernel
theorem dX6_two_63 : decode cX6_two 63 = .ok (.ifCond .eq 7, 3) := by decide +kernel
theorem dX6_two_66 : decode cX6_two 66 = .ok (.iconst 1, 1) := by decide +kernel
theorem dX6_two_67 : decode cX6_two 67 = .ok (.goto 4, 3) := by decide +kernel
theorem dX6_two_70 : decode cX6_two 70 = .ok (.iconst 0, 1) := by decide +kernel
theorem dX6_two_71 : decode cX6_two 71 = .ok (.ireturn, 1) := by decide +kernel
theorem dX6_two_72 : decode cX6_two 72 = .ok (.iload_n 1, 1) := by decide +kernel
theorem dX6_two_73 : decode cX6_two 73 = .ok (.iload_n 2, 1) := by decide +kernel
theorem dX6_two_74 : decode cX6_two 74 = .ok (.if_icmp .ge 7, 3) := by decide +kernel
theorem dX6_two_77 : decode cX6_two 77 = .ok (.iconst 1, 1) := by decide +kernel
theorem dX6_two_78 : decode cX6_two 78 = .ok (.goto 4, 3) := by decide +kernel
theorem dX6_two_81 : decode cX6_two 81 = .ok (.iconst 0, 1) := by decide +kernel
theorem dX6_two_82 : decode cX6_two 82 = .ok (.ireturn, 1) := by decide +kernel
theorem dX6_two_83 : decode cX6_two 83 = .ok (.iload_n 1, 1) := by decide +kernel
theorem dX6_two_84 : decode cX6_two 84 = .ok (.iload_n 2, 1) := by decide +kernel
theorem dX6_two_85 : decode cX6_two 85 = .ok (.if_icmp .ne 7, 3) := by decide +kernel
theorem dX6_two_88 : decode cX6_two 88 = .ok (.iconst 1, 1) := by decide +kernel
theorem dX6_two_89 : decode cX6_two 89 = .ok (.goto 4, 3) := by decide +kernel
theorem dX6_two_92 : decode cX6_two 92 = .ok (.iconst 0, 1) := by decide +kernel
theorem dX6_two_93 : decode cX6_two 93 = .ok (.ireturn, 1) := by decide +kernel
theorem dX6_two_94 : decode cX6_two 94 = .ok (.iload_n 1, 1) := by decide +kernel
theorem dX6_two_95 : decode cX6_two 95 = .ok (.iload_n 2, 1) := by decide +kernel
theorem dX6_two_96 : decode cX6_two 96 = .ok (.iadd, 1) := by decide +kernel
theorem dX6_two_97 : decode cX6_two 97 = .ok (.ireturn, 1) := by decide +kernel
theorem dX6_two_98 : decode cX6_two 98 = .ok (.iload_n 1, 1) := by decide +kernel
theorem dX6_two_99 : decode cX6_two 99 = .ok (.iload_n 2, 1) := by decide +kernel
theorem dX6_two_100 : decode cX6_two 100 = .ok (.isub, 1) := by decide +kernel
theorem dX6_two_101 : decode cX6_two 101 = .ok (.ireturn, 1) := by decide +kernel
theorem dX6_two_102 : decode cX6_two 102 = .ok (.iload_n 1, 1) := by decide +kernel
theorem dX6_two_103 : decode cX6_two 103 = .ok (.iload_n 2, 1) := by decide +kernel
theorem dX6_two_104 : decode cX6_two 104 = .ok (.imul, 1) := by decide +kernel
theorem dX6_two_105 : decode cX6_two 105 = .ok (.ireturn, 1) := by decide +kernel
set_option maxRecDepth 20000 in
theorem ggX6_says_X6_two : GoodIn wsX6_says wsX6_two := goodIn_r _ [10] (by decide +kernel) (by decide +kernel)
set_option maxRecDepth 20000 in
theorem gX6_says_X6_two : GoodIn wsX6_says (va_wsS RX6 174 yX6_two wsX6_two) := goodIn_app (goodIn_of _ (by decide +kernel)) ggX6_says_X6_two
theorem dX6_says_0 : decode cX6_says 0 = .ok (.iconst 0, 1) := by decide +kernel
theorem dX6_says_1 : decode cX6_says 1 = .ok (.istore_n 2, 1) := by decide +kernel
theorem dX6_says_2 : decode cX6_says 2 = .ok (.aload_n 0, 1) := by decide +kernel
theorem dX6_says_3 : decode cX6_says 3 = .ok (.getfield 34, 3) := by decide +kernel
theorem dX6_says_6 : decode cX6_says 6 = .ok (.iconst 4, 1) := by decide +kernel
theorem dX6_says_7 : decode cX6_says 7 = .ok (.aload_n 0, 1) := by decide +kernel
theorem dX6_says_8 : decode cX6_says 8 = .ok (.getfield 102, 3) := by decide +kernel
theorem dX6_says_11 : decode cX6_says 11 = .ok (.imul, 1) := by decide +kernel
theorem dX6_says_12 : decode cX6_says 12 = .ok (.iload_n 1, 1) := by decide +kernel
theorem dX6_says_13 : decode cX6_says 13 = .ok (.iadd, 1) := by decide +kernel
theorem dX6_says_14 : decode cX6_says 14 = .ok (.iaload, 1) := by decide +kernel
theorem dX6_says_15 : decode cX6_says 15 = .ok (.istore_n 3, 1) := by decide +kernel
theorem dX6_says_16 : decode cX6_says 16 = .ok (.iload_n 3, 1) := by decide +kernel
theorem dX6_says_17 : decode cX6_says 17 = .ok (.aload_n 0, 1) := by decide +kernel
theorem dX6_says_18 : decode cX6_says 18 = .ok (.getfield 34, 3) := by decide +kernel
theorem dX6_says_21 : decode cX6_says 21 = .ok (.iconst 4, 1) := by decide +kernel
theorem dX6_says_22 : decode cX6_says 22 = .ok (.aload_n 0, 1) := by decide +kernel
theorem dX6_says_23 : decode cX6_says 23 = .ok (.getfield 102, 3) := by decide +kernel
theorem dX6_says_26 : decode cX6_says 26 = .ok (.imul, 1) := by decide +kernel
theorem dX6_says_27 : decode cX6_says 27 = .ok (.iload_n 1, 1) := by decide +kernel
theorem dX6_says_28 : decode cX6_says 28 = .ok (.iadd, 1) := by decide +kernel
theorem dX6_says_29 : decode cX6_says 29 = .ok (.iconst 1, 1) := by decide +kernel
theorem dX6_says_30 : decode cX6_says 30 = .ok (.iadd, 1) := by decide +kernel
theorem dX6_says_31 : decode cX6_says 31 = .ok (.iaload, 1) := by decide +kernel
theorem dX6_says_32 : decode cX6_says 32 = .ok (.if_icmp .ge 165, 3) := by decide +kernel
theorem dX6_says_35 : decode cX6_says 35 = .ok (.aload_n 0, 1) := by decide +kernel
theorem dX6_says_36 : decode cX6_says 36 = .ok (.getfield 31, 3) := by decide +kernel
theorem dX6_says_39 : decode cX6_says 39 = .ok (.sipush 200, 3) := by decide +kernel
theorem dX6_says_42 : decode cX6_says 42 = .ok (.aload_n 0, 1) := by decide +kernel
theorem dX6_says_43 : decode cX6_says 43 = .ok (.getfield 102, 3) := by decide +kernel
theorem dX6_says_46 : decode cX6_says 46 = .ok (.imul, 1) := by decide +kernel
theorem dX6_says_47 : decode cX6_says 47 = .ok (.iload_n 3, 1) := by decide +kernel
theorem dX6_says_48 : decode cX6_says 48 = .ok (.iadd, 1) := by decide +kernel
theorem dX6_says_49 : decode cX6_says 49 = .ok (.iaload, 1) := by decide +kernel
theorem dX6_says_50 : decode cX6_says 50 = .ok (.istore 4, 2) := by decide +kernel
theorem dX6_says_52 : decode cX6_says 52 = .ok (.iload 4, 2) := by decide +kernel
theorem dX6_says_54 : decode cX6_says 54 = .ok (.ldc 160, 2) := by decide +kernel
theorem dX6_says_56 : decode cX6_says 56 = .ok (.if_icmp .ge 10, 3) := by decide +kernel
theorem dX6_says_59 : decode cX6_says 59 = .ok (.iload 4, 2) := by decide +kernel
theorem dX6_says_61 : decode cX6_says 61 = .ok (.bipush 11, 2) := by decide +kernel
theorem dX6_says_63 : decode cX6_says 63 = .ok (.if_icmp .ge 37, 3) := by decide +kernel
theorem dX6_says_66 : decode cX6_says 66 = .ok (.aload_n 0, 1) := by decide +kernel
theorem dX6_says_67 : decode cX6_says 67 = .ok (.getfield 61, 3) := by decide +kernel
theorem dX6_says_70 : decode cX6_says 70 = .ok (.iload_n 2, 1) := by decide +kernel
theorem dX6_says_71 : decode cX6_says 71 = .ok (.iload 4, 2) := by decide +kernel
theorem dX6_says_73 : decode cX6_says 73 = .ok (.bipush 11, 2) := by decide +kernel
theorem dX6_says_75 : decode cX6_says 75 = .ok (.if_icmp .ge 13, 3) := by decide +kernel
theorem dX6_says_78 : decode cX6_says 78 = .ok (.aload_n 0, 1) := by decide +kernel
theorem dX6_says_79 : decode cX6_says 79 = .ok (.getfield 64, 3) := by decide +kernel
theorem dX6_says_82 : decode cX6_says 82 = .ok (.iload 4, 2) := by decide +kernel
theorem dX6_says_84 : decode cX6_says 84 = .ok (.iaload, 1) := by decide +kernel
theorem dX6_says_85 : decode cX6_says 85 = .ok (.goto 8, 3) := by decide +kernel
theorem dX6_says_88 : decode cX6_says 88 = .ok (.iload 4, 2) := by decide +kernel
theorem dX6_says_90 : decode cX6_says 90 = .ok (.ldc 160, 2) := by decide +kernel
theorem dX6_says_92 : decode cX6_says 92 = .ok (.isub, 1) := by decide +kernel
theorem dX6_says_93 : decode cX6_says 93 = .ok (.iastore, 1) := by decide +kernel
theorem dX6_says_94 : decode cX6_says 94 = .ok (.iinc 2 1, 3) := by decide +kernel
theorem dX6_says_97 : decode cX6_says 97 = .ok (.goto 94, 3) := by decide +kernel
theorem dX6_says_100 : decode cX6_says 100 = .ok (.iload 4, 2) := by decide +kernel
theorem dX6_says_102 : decode cX6_says 102 = .ok (.bipush 13, 2) := by decide +kernel
theorem dX6_says_104 : decode cX6_says 104 = .ok (.if_icmp .ne 30, 3) := by decide +kernel
theorem dX6_says_107 : decode cX6_says 107 = .ok (.aload_n 0, 1) := by decide +kernel
theorem dX6_says_108 : decode cX6_says 108 = .ok (.getfield 61, 3) := by decide +kernel
theorem dX6_says_111 : decode cX6_says 111 = .ok (.iload_n 2, 1) := by decide +kernel
theorem dX6_says_112 : decode cX6_says 112 = .ok (.iconst 1, 1) := by decide +kernel
theorem dX6_says_113 : decode cX6_says 113 = .ok (.isub, 1) := by decide +kernel
theorem dX6_says_114 : decode cX6_says 114 = .ok (.aload_n 0, 1) := by decide +kernel
theorem dX6_says_115 : decode cX6_says 115 = .ok (.getfield 61, 3) := by decide +kernel
theorem dX6_says_118 : decode cX6_says 118 = .ok (.iload_n 2, 1) := by decide +kernel
theorem dX6_says_119 : decode cX6_says 119 = .ok (.iconst 1, 1) := by decide +kernel
theorem dX6_says_120 : decode cX6_says 120 = .ok (.isub, 1) := by decide +kernel
theorem dX6_says_121 : decode cX6_says 121 = .ok (.iaload, 1) := by decide +kernel
theorem dX6_says_122 : decode cX6_says 122 = .ok (.ifCond .ne 7, 3) := by decide +kernel
theorem dX6_says_125 : decode cX6_says 125 = .ok (.iconst 1, 1) := by decide +kernel
theorem dX6_says_126 : decode cX6_says 126 = .ok (.goto 4, 3) := by decide +kernel
theorem dX6_says_129 : decode cX6_says 129 = .ok (.iconst 0, 1) := by decide +kernel
theorem dX6_says_130 : decode cX6_says 130 = .ok (.iastore, 1) := by decide +kernel
theorem dX6_says_131 : decode cX6_says 131 = .ok (.goto 60, 3) := by decide +kernel
theorem dX6_says_134 : decode cX6_says 134 = .ok (.iload 4, 2) := by decide +kernel
theorem dX6_says_136 : decode cX6_says 136 = .ok (.bipush 19, 2) := by decide +kernel
theorem dX6_says_138 : decode cX6_says 138 = .ok (.if_icmp .ne 23, 3) := by decide +kernel
theorem dX6_says_141 : decode cX6_says 141 = .ok (.aload_n 0, 1) := by decide +kernel
theorem dX6_says_142 : decode cX6_says 142 = .ok (.getfield 61, 3) := by decide +kernel
theorem dX6_says_145 : decode cX6_says 145 = .ok (.iload_n 2, 1) := by decide +kernel
theorem dX6_says_146 : decode cX6_says 146 = .ok (.iconst 1, 1) := by decide +kernel
theorem dX6_says_147 : decode cX6_says 147 = .ok (.isub, 1) := by decide +kernel
theorem dX6_says_148 : decode cX6_says 148 = .ok (.aload_n 0, 1) := by decide +kernel
theorem dX6_says_149 : decode cX6_says 149 = .ok (.getfield 61, 3) := by decide +kernel
theorem dX6_says_152 : decode cX6_says 152 = .ok (.iload_n 2, 1) := by decide +kernel
theorem dX6_says_153 : decode cX6_says 153 = .ok (.iconst 1, 1) := by decide +kernel
theorem dX6_says_154 : decode cX6_says 154 = .ok (.isub, 1) := by decide +kernel
theorem dX6_says_155 : decode cX6_says 155 = .ok (.iaload, 1) := by decide +kernel
theorem dX6_says_156 : decode cX6_says 156 = .ok (.ineg, 1) := by decide +kernel
theorem dX6_says_157 : decode cX6_says 157 = .ok (.iastore, 1) := by decide +kernel
theorem dX6_says_158 : decode cX6_says 158 = .ok (.goto 33, 3) := by decide +kernel
theorem dX6_says_161 : decode cX6_says 161 = .ok (.iinc 2 (-1), 3) := by decide +kernel
theorem dX6_says_164 : decode cX6_says 164 = .ok (.aload_n 0, 1) := by decide +kernel
theorem dX6_says_165 : decode cX6_says 165 = .ok (.getfield 61, 3) := by decide +kernel
theorem dX6_says_168 : decode cX6_says 168 = .ok (.iload_n 2, 1) := by decide +kernel
theorem dX6_says_169 : decode cX6_says 169 = .ok (.iconst 1, 1) := by decide +kernel
theorem dX6_says_170 : decode cX6_says 170 = .ok (.isub, 1) := by decide +kernel
theorem dX6_says_171 : decode cX6_says 171 = .ok (.iload 4, 2) := by decide +kernel
theorem dX6_says_173 : decode cX6_says 173 = .ok (.aload_n 0, 1) := by decide +kernel
theorem dX6_says_174 : decode cX6_says 174 = .ok (.getfield 61, 3) := by decide +kernel
theorem dX6_says_177 : decode cX6_says 177 = .ok (.iload_n 2, 1) := by decide +kernel
theorem dX6_says_178 : decode cX6_says 178 = .ok (.iconst 1, 1) := by decide +kernel
theorem dX6_says_179 : decode cX6_says 179 = .ok (.isub, 1) := by decide +kernel
theorem dX6_says_180 : decode cX6_says 180 = .ok (.iaload, 1) := by decide +kernel
theorem dX6_says_181 : decode cX6_says 181 = .ok (.aload_n 0, 1) := by decide +kernel
theorem dX6_says_182 : decode cX6_says 182 = .ok (.getfield 61, 3) := by decide +kernel
theorem dX6_says_185 : decode cX6_says 185 = .ok (.iload_n 2, 1) := by decide +kernel
theorem dX6_says_186 : decode cX6_says 186 = .ok (.iaload, 1) := by decide +kernel
theorem dX6_says_187 : decode cX6_says 187 = .ok (.invokestatic 174, 3) := by decide +kernel
theorem dX6_says_190 : decode cX6_says 190 = .ok (.iastore, 1) := by decide +kernel
theorem dX6_says_191 : decode cX6_says 191 = .ok (.iinc 3 1, 3) := by decide +kernel
theorem dX6_says_194 : decode cX6_says 194 = .ok (.goto (-178), 3) := by decide +kernel
theorem dX6_says_197 : decode cX6_says 197 = .ok (.aload_n 0, 1) := by decide +kernel
theorem dX6_says_198 : decode cX6_says 198 = .ok (.getfield 61, 3) := by decide +kernel
theorem dX6_says_201 : decode cX6_says 201 = .ok (.iconst 0, 1) := by decide +kernel
theorem dX6_says_202 : decode cX6_says 202 = .ok (.iaload, 1) := by decide +kernel
theorem dX6_says_203 : decode cX6_says 203 = .ok (.ireturn, 1) := by decide +kernel
set_option maxRecDepth 20000 in
theorem ggX6_force_X6_in : GoodIn wsX6_force wsX6_in := goodIn_r _ [6] (by decide +kernel) (by decide +kernel)
set_option maxRecDepth 20000 in
theorem gX6_force_X6_in : GoodIn wsX6_force (va_wsS RX6 81 yX6_in wsX6_in) := goodIn_app (goodIn_of _ (by decide +kernel)) ggX6_force_X6_in
theorem dX6_force_0 : decode cX6_force 0 = .ok (.iload_n 1, 1) := by decide +kernel
theorem dX6_force_1 : decode cX6_force 1 = .ok (.iconst 0, 1) := by decide +kernel
theorem dX6_force_2 : decode cX6_force 2 = .ok (.aload_n 0, 1) := by decide +kernel
theorem dX6_force_3 : decode cX6_force 3 = .ok (.getfield 99, 3) := by decide +kernel
theorem dX6_force_6 : decode cX6_force 6 = .ok (.iconst 1, 1) := by decide +kernel
theorem dX6_force_7 : decode cX6_force 7 = .ok (.isub, 1) := by decide +kernel
theorem dX6_force_8 : decode cX6_force 8 = .ok (.invokestatic 81, 3) := by decide +kernel
theorem dX6_force_11 : decode cX6_force 11 = .ok (.ifCond .ne 6, 3) := by decide +kernel
theorem dX6_force_14 : decode cX6_force 14 = .ok (.bipush (-2), 2) := by decide +kernel
theorem dX6_force_16 : decode cX6_force 16 = .ok (.ireturn, 1) := by decide +kernel
theorem dX6_force_17 : decode cX6_force 17 = .ok (.aload_n 0, 1) := by decide +kernel
theorem dX6_force_18 : decode cX6_force 18 = .ok (.getfield 102, 3) := by decide +kernel
theorem dX6_force_21 : decode cX6_force 21 = .ok (.istore_n 2, 1) := by decide +kernel
theorem dX6_force_22 : decode cX6_force 22 = .ok (.aload_n 0, 1) := by decide +kernel
theorem dX6_force_23 : decode cX6_force 23 = .ok (.iload_n 1, 1) := by decide +kernel
theorem dX6_force_24 : decode cX6_force 24 = .ok (.putfield 102, 3) := by decide +kernel
theorem dX6_force_27 : decode cX6_force 27 = .ok (.iload_n 2, 1) := by decide +kernel
theorem dX6_force_28 : decode cX6_force 28 = .ok (.ireturn, 1) := by decide +kernel
set_option maxRecDepth 20000 in
theorem ggX6_asksOf_X6_onesOf : GoodIn wsX6_asksOf wsX6_onesOf := goodIn_r _ [9] (by decide +kernel) (by decide +kernel)
set_option maxRecDepth 20000 in
theorem gX6_asksOf_X6_onesOf : GoodIn wsX6_asksOf (va_wsS RX6 177 yX6_onesOf wsX6_onesOf) := goodIn_app (goodIn_of _ (by decide +kernel)) ggX6_asksOf_X6_onesOf
set_option maxRecDepth 20000 in
theorem ggX6_asksOf_X6_lying : GoodIn wsX6_asksOf wsX6_lying := goodIn_r _ [13, 14, 15, 16, 8, 17, 18, 19, 20, 21, 22, 23, 24, 37, 38, 39, 40, 41, 42, 43, 44, 45, 46, 47, 48, 49, 50, 51, 52, 53, 54, 55, 56, 57, 58, 59, 60, 61, 62, 63, 64, 65, 66, 67, 68, 69, 70, 71, 72, 73, 74] (by decide +kernel) (by decide +kernel)
set_option maxRecDepth 20000 in
theorem gX6_asksOf_X6_lying : GoodIn wsX6_asksOf (wsV RX6 96 RX6 yX6_lying wsX6_lying) := goodIn_app (goodIn_of _ (by decide +kernel)) ggX6_asksOf_X6_lying
set_option maxRecDepth 20000 in
theorem ggX6_asksOf_X6_says : GoodIn wsX6_asksOf wsX6_says := goodIn_r _ [28, 29, 30, 31, 32, 33, 1, 34, 35, 8, 36, 37, 38, 39, 40, 41, 42, 43, 44, 45, 46, 47, 48, 49, 50, 51, 52, 53, 54, 55, 56, 57, 58, 59, 60, 61, 62, 63, 64, 65, 66, 67, 68, 69, 70, 71, 72, 73, 74] (by decide +kernel) (by decide +kernel)
set_option maxRecDepth 20000 in
theorem gX6_asksOf_X6_says : GoodIn wsX6_asksOf (wsV RX6 180 RX6 yX6_says wsX6_says) := goodIn_app (goodIn_of _ (by decide +kernel)) ggX6_asksOf_X6_says
set_option maxRecDepth 20000 in
theorem ggX6_asksOf_X6_within : GoodIn wsX6_asksOf wsX6_within := goodIn_r _ [24] (by decide +kernel) (by decide +kernel)
set_option maxRecDepth 20000 in
theorem gX6_asksOf_X6_within : GoodIn wsX6_asksOf (va_wsS RX6 85 yX6_within wsX6_within) := goodIn_app (goodIn_of _ (by decide +kernel)) ggX6_asksOf_X6_within
theorem dX6_asksOf_0 : decode cX6_asksOf 0 = .ok (.aload_n 0, 1) := by decide +kernel
theorem dX6_asksOf_1 : decode cX6_asksOf 1 = .ok (.getfield 64, 3) := by decide +kernel
theorem dX6_asksOf_4 : decode cX6_asksOf 4 = .ok (.iconst 0, 1) := by decide +kernel
theorem dX6_asksOf_5 : decode cX6_asksOf 5 = .ok (.aload_n 0, 1) := by decide +kernel
theorem dX6_asksOf_6 : decode cX6_asksOf 6 = .ok (.getfield 16, 3) := by decide +kernel
theorem dX6_asksOf_9 : decode cX6_asksOf 9 = .ok (.iconst 3, 1) := by decide +kernel
theorem dX6_asksOf_10 : decode cX6_asksOf 10 = .ok (.iload_n 2, 1) := by decide +kernel
theorem dX6_asksOf_11 : decode cX6_asksOf 11 = .ok (.imul, 1) := by decide +kernel
theorem dX6_asksOf_12 : decode cX6_asksOf 12 = .ok (.iconst 1, 1) := by decide +kernel
theorem dX6_asksOf_13 : decode cX6_asksOf 13 = .ok (.iadd, 1) := by decide +kernel
theorem dX6_asksOf_14 : decode cX6_asksOf 14 = .ok (.iaload, 1) := by decide +kernel
theorem dX6_asksOf_15 : decode cX6_asksOf 15 = .ok (.iastore, 1) := by decide +kernel
theorem dX6_asksOf_16 : decode cX6_asksOf 16 = .ok (.aload_n 0, 1) := by decide +kernel
theorem dX6_asksOf_17 : decode cX6_asksOf 17 = .ok (.getfield 64, 3) := by decide +kernel
theorem dX6_asksOf_20 : decode cX6_asksOf 20 = .ok (.iconst 1, 1) := by decide +kernel
theorem dX6_asksOf_21 : decode cX6_asksOf 21 = .ok (.aload_n 0, 1) := by decide +kernel
theorem dX6_asksOf_22 : decode cX6_asksOf 22 = .ok (.getfield 16, 3) := by decide +kernel
theorem dX6_asksOf_25 : decode cX6_asksOf 25 = .ok (.iconst 3, 1) := by decide +kernel
theorem dX6_asksOf_26 : decode cX6_asksOf 26 = .ok (.iload_n 2, 1) := by decide +kernel
theorem dX6_asksOf_27 : decode cX6_asksOf 27 = .ok (.imul, 1) := by decide +kernel
theorem dX6_asksOf_28 : decode cX6_asksOf 28 = .ok (.iaload, 1) := by decide +kernel
theorem dX6_asksOf_29 : decode cX6_asksOf 29 = .ok (.invokestatic 177, 3) := by decide +kernel
theorem dX6_asksOf_32 : decode cX6_asksOf 32 = .ok (.iastore, 1) := by decide +kernel
theorem dX6_asksOf_33 : decode cX6_asksOf 33 = .ok (.aload_n 0, 1) := by decide +kernel
theorem dX6_asksOf_34 : decode cX6_asksOf 34 = .ok (.getfield 64, 3) := by decide +kernel
theorem dX6_asksOf_37 : decode cX6_asksOf 37 = .ok (.iconst 2, 1) := by decide +kernel
theorem dX6_asksOf_38 : decode cX6_asksOf 38 = .ok (.aload_n 0, 1) := by decide +kernel
theorem dX6_asksOf_39 : decode cX6_asksOf 39 = .ok (.getfield 93, 3) := by decide +kernel
theorem dX6_asksOf_42 : decode cX6_asksOf 42 = .ok (.iastore, 1) := by decide +kernel
theorem dX6_asksOf_43 : decode cX6_asksOf 43 = .ok (.aload_n 0, 1) := by decide +kernel
theorem dX6_asksOf_44 : decode cX6_asksOf 44 = .ok (.getfield 64, 3) := by decide +kernel
theorem dX6_asksOf_47 : decode cX6_asksOf 47 = .ok (.iconst 3, 1) := by decide +kernel
theorem dX6_asksOf_48 : decode cX6_asksOf 48 = .ok (.aload_n 0, 1) := by decide +kernel
theorem dX6_asksOf_49 : decode cX6_asksOf 49 = .ok (.invokevirtual 96, 3) := by decide +kernel
theorem dX6_asksOf_52 : decode cX6_asksOf 52 = .ok (.iastore, 1) := by decide +kernel
theorem dX6_asksOf_53 : decode cX6_asksOf 53 = .ok (.aload_n 0, 1) := by decide +kernel
theorem dX6_asksOf_54 : decode cX6_asksOf 54 = .ok (.getfield 64, 3) := by decide +kernel
theorem dX6_asksOf_57 : decode cX6_asksOf 57 = .ok (.iconst 4, 1) := by decide +kernel
theorem dX6_asksOf_58 : decode cX6_asksOf 58 = .ok (.aload_n 0, 1) := by decide +kernel
theorem dX6_asksOf_59 : decode cX6_asksOf 59 = .ok (.getfield 109, 3) := by decide +kernel
theorem dX6_asksOf_62 : decode cX6_asksOf 62 = .ok (.invokestatic 177, 3) := by decide +kernel
theorem dX6_asksOf_65 : decode cX6_asksOf 65 = .ok (.iastore, 1) := by decide +kernel
theorem dX6_asksOf_66 : decode cX6_asksOf 66 = .ok (.aload_n 0, 1) := by decide +kernel
theorem dX6_asksOf_67 : decode cX6_asksOf 67 = .ok (.getfield 64, 3) := by decide +kernel
theorem dX6_asksOf_70 : decode cX6_asksOf 70 = .ok (.iconst 5, 1) := by decide +kernel
theorem dX6_asksOf_71 : decode cX6_asksOf 71 = .ok (.aload_n 0, 1) := by decide +kernel
theorem dX6_asksOf_72 : decode cX6_asksOf 72 = .ok (.getfield 13, 3) := by decide +kernel
theorem dX6_asksOf_75 : decode cX6_asksOf 75 = .ok (.iload_n 2, 1) := by decide +kernel
theorem dX6_asksOf_76 : decode cX6_asksOf 76 = .ok (.iaload, 1) := by decide +kernel
theorem dX6_asksOf_77 : decode cX6_asksOf 77 = .ok (.iastore, 1) := by decide +kernel
theorem dX6_asksOf_78 : decode cX6_asksOf 78 = .ok (.aload_n 0, 1) := by decide +kernel
theorem dX6_asksOf_79 : decode cX6_asksOf 79 = .ok (.iload_n 1, 1) := by decide +kernel
theorem dX6_asksOf_80 : decode cX6_asksOf 80 = .ok (.invokevirtual 180, 3) := by decide +kernel
theorem dX6_asksOf_83 : decode cX6_asksOf 83 = .ok (.iload_n 1, 1) := by decide +kernel
theorem dX6_asksOf_84 : decode cX6_asksOf 84 = .ok (.iconst 2, 1) := by decide +kernel
theorem dX6_asksOf_85 : decode cX6_asksOf 85 = .ok (.if_icmp .ne 8, 3) := by decide +kernel
theorem dX6_asksOf_88 : decode cX6_asksOf 88 = .ok (.bipush (-99), 2) := by decide +kernel
theorem dX6_asksOf_90 : decode cX6_asksOf 90 = .ok (.goto 4, 3) := by decide +kernel
theorem dX6_asksOf_93 : decode cX6_asksOf 93 = .ok (.iconst 0, 1) := by decide +kernel
theorem dX6_asksOf_94 : decode cX6_asksOf 94 = .ok (.bipush 99, 2) := by decide +kernel
theorem dX6_asksOf_96 : decode cX6_asksOf 96 = .ok (.invokestatic 85, 3) := by decide +kernel
theorem dX6_asksOf_99 : decode cX6_asksOf 99 = .ok (.ireturn, 1) := by decide +kernel
set_option maxRecDepth 20000 in
theorem ggX6_asks_X6_in : GoodIn wsX6_asks wsX6_in := goodIn_r _ [4] (by decide +kernel) (by decide +kernel)
set_option maxRecDepth 20000 in
theorem gX6_asks_X6_in : GoodIn wsX6_asks (va_wsS RX6 81 yX6_in wsX6_in) := goodIn_app (goodIn_of _ (by decide +kernel)) ggX6_asks_X6_in
set_option maxRecDepth 20000 in
theorem ggX6_asks_X6_isOne : GoodIn wsX6_asks wsX6_isOne := goodIn_r _ [8, 9, 1, 2, 3, 4, 46, 47, 48, 49, 50, 51, 52, 53, 54, 55, 56, 57, 58, 59, 60, 61, 62, 63, 64, 65, 66, 67, 68, 69, 70, 71, 72, 73, 74, 75, 76, 77, 78, 79, 80, 81, 82, 83] (by decide +kernel) (by decide +kernel)
set_option maxRecDepth 20000 in
theorem gX6_asks_X6_isOne : GoodIn wsX6_asks (wsV RX6 183 RX6 yX6_isOne wsX6_isOne) := goodIn_app (goodIn_of _ (by decide +kernel)) ggX6_asks_X6_isOne
set_option maxRecDepth 20000 in
theorem ggX6_asks_X6_asksOf : GoodIn wsX6_asks wsX6_asksOf := goodIn_r _ [13, 14, 15, 16, 17, 18, 19, 20, 3, 21, 22, 23, 24, 25, 26, 27, 28, 29, 30, 1, 2, 4, 31, 32, 33, 34, 35, 36, 37, 38, 39, 40, 41, 42, 43, 44, 45, 46, 47, 48, 49, 50, 51, 52, 53, 54, 55, 56, 57, 58, 59, 60, 61, 62, 63, 64, 65, 66, 67, 68, 69, 70, 71, 72, 73, 74, 75, 76, 77, 78, 79, 80, 81, 82, 83] (by decide +kernel) (by decide +kernel)
set_option maxRecDepth 20000 in
theorem gX6_asks_X6_asksOf : GoodIn wsX6_asks (wsV RX6 186 RX6 yX6_asksOf wsX6_asksOf) := goodIn_app (goodIn_of _ (by decide +kernel)) ggX6_asks_X6_asksOf
theorem dX6_asks_0 : decode cX6_asks 0 = .ok (.iload_n 1, 1) := by decide +kernel
theorem dX6_asks_1 : decode cX6_asks 1 = .ok (.iconst 0, 1) := by decide +kernel
theorem dX6_asks_2 : decode cX6_asks 2 = .ok (.iconst 2, 1) := by decide +kernel
theorem dX6_asks_3 : decode cX6_asks 3 = .ok (.invokestatic 81, 3) := by decide +kernel
theorem dX6_asks_6 : decode cX6_asks 6 = .ok (.ifCond .eq 20, 3) := by decide +kernel
theorem dX6_asks_9 : decode cX6_asks 9 = .ok (.aload_n 0, 1) := by decide +kernel
theorem dX6_asks_10 : decode cX6_asks 10 = .ok (.iload_n 2, 1) := by decide +kernel
theorem dX6_asks_11 : decode cX6_asks 11 = .ok (.invokevirtual 183, 3) := by decide +kernel
theorem dX6_asks_14 : decode cX6_asks 14 = .ok (.ifCond .eq 12, 3) := by decide +kernel
theorem dX6_asks_17 : decode cX6_asks 17 = .ok (.aload_n 0, 1) := by decide +kernel
theorem dX6_asks_18 : decode cX6_asks 18 = .ok (.iload_n 1, 1) := by decide +kernel
theorem dX6_asks_19 : decode cX6_asks 19 = .ok (.iload_n 2, 1) := by decide +kernel
theorem dX6_asks_20 : decode cX6_asks 20 = .ok (.invokevirtual 186, 3) := by decide +kernel
theorem dX6_asks_23 : decode cX6_asks 23 = .ok (.goto 6, 3) := by decide +kernel
theorem dX6_asks_26 : decode cX6_asks 26 = .ok (.sipush (-1000), 3) := by decide +kernel
theorem dX6_asks_29 : decode cX6_asks 29 = .ok (.ireturn, 1) := by decide +kernel
set_option maxRecDepth 20000 in
theorem ggX6_witness_X6_in : GoodIn wsX6_witness wsX6_in := goodIn_r _ [8] (by decide +kernel) (by decide +kernel)
set_option maxRecDepth 20000 in
theorem gX6_witness_X6_in : GoodIn wsX6_witness (va_wsS RX6 81 yX6_in wsX6_in) := goodIn_app (goodIn_of _ (by decide +kernel)) ggX6_witness_X6_in
theorem dX6_witness_0 : decode cX6_witness 0 = .ok (.iload_n 1, 1) := by decide +kernel
theorem dX6_witness_1 : decode cX6_witness 1 = .ok (.iconst 0, 1) := by decide +kernel
theorem dX6_witness_2 : decode cX6_witness 2 = .ok (.bipush 59, 2) := by decide +kernel
theorem dX6_witness_4 : decode cX6_witness 4 = .ok (.invokestatic 81, 3) := by decide +kernel
theorem dX6_witness_7 : decode cX6_witness 7 = .ok (.ifCond .eq 24, 3) := by decide +kernel
theorem dX6_witness_10 : decode cX6_witness 10 = .ok (.iload_n 2, 1) := by decide +kernel
theorem dX6_witness_11 : decode cX6_witness 11 = .ok (.iconst 0, 1) := by decide +kernel
theorem dX6_witness_12 : decode cX6_witness 12 = .ok (.sipush 1023, 3) := by decide +kernel
theorem dX6_witness_15 : decode cX6_witness 15 = .ok (.invokestatic 81, 3) := by decide +kernel
theorem dX6_witness_18 : decode cX6_witness 18 = .ok (.ifCond .eq 13, 3) := by decide +kernel
theorem dX6_witness_21 : decode cX6_witness 21 = .ok (.iload_n 3, 1) := by decide +kernel
theorem dX6_witness_22 : decode cX6_witness 22 = .ok (.iconst 0, 1) := by decide +kernel
theorem dX6_witness_23 : decode cX6_witness 23 = .ok (.bipush 99, 2) := by decide +kernel
theorem dX6_witness_25 : decode cX6_witness 25 = .ok (.invokestatic 81, 3) := by decide +kernel
theorem dX6_witness_28 : decode cX6_witness 28 = .ok (.ifCond .ne 6, 3) := by decide +kernel
theorem dX6_witness_31 : decode cX6_witness 31 = .ok (.bipush (-2), 2) := by decide +kernel
theorem dX6_witness_33 : decode cX6_witness 33 = .ok (.ireturn, 1) := by decide +kernel
theorem dX6_witness_34 : decode cX6_witness 34 = .ok (.aload_n 0, 1) := by decide +kernel
theorem dX6_witness_35 : decode cX6_witness 35 = .ok (.getfield 78, 3) := by decide +kernel
theorem dX6_witness_38 : decode cX6_witness 38 = .ok (.bipush 6, 2) := by decide +kernel
theorem dX6_witness_40 : decode cX6_witness 40 = .ok (.if_icmp .ne 6, 3) := by decide +kernel
theorem dX6_witness_43 : decode cX6_witness 43 = .ok (.bipush (-4), 2) := by decide +kernel
theorem dX6_witness_45 : decode cX6_witness 45 = .ok (.ireturn, 1) := by decide +kernel
theorem dX6_witness_46 : decode cX6_witness 46 = .ok (.aload_n 0, 1) := by decide +kernel
theorem dX6_witness_47 : decode cX6_witness 47 = .ok (.getfield 7, 3) := by decide +kernel
theorem dX6_witness_50 : decode cX6_witness 50 = .ok (.aload_n 0, 1) := by decide +kernel
theorem dX6_witness_51 : decode cX6_witness 51 = .ok (.getfield 78, 3) := by decide +kernel
theorem dX6_witness_54 : decode cX6_witness 54 = .ok (.iload_n 1, 1) := by decide +kernel
theorem dX6_witness_55 : decode cX6_witness 55 = .ok (.bipush 10, 2) := by decide +kernel
theorem dX6_witness_57 : decode cX6_witness 57 = .ok (.idiv, 1) := by decide +kernel
theorem dX6_witness_58 : decode cX6_witness 58 = .ok (.iastore, 1) := by decide +kernel
theorem dX6_witness_59 : decode cX6_witness 59 = .ok (.aload_n 0, 1) := by decide +kernel
theorem dX6_witness_60 : decode cX6_witness 60 = .ok (.getfield 13, 3) := by decide +kernel
theorem dX6_witness_63 : decode cX6_witness 63 = .ok (.aload_n 0, 1) := by decide +kernel
theorem dX6_witness_64 : decode cX6_witness 64 = .ok (.getfield 78, 3) := by decide +kernel
theorem dX6_witness_67 : decode cX6_witness 67 = .ok (.iload_n 1, 1) := by decide +kernel
theorem dX6_witness_68 : decode cX6_witness 68 = .ok (.bipush 10, 2) := by decide +kernel
theorem dX6_witness_70 : decode cX6_witness 70 = .ok (.irem, 1) := by decide +kernel
theorem dX6_witness_71 : decode cX6_witness 71 = .ok (.iastore, 1) := by decide +kernel
theorem dX6_witness_72 : decode cX6_witness 72 = .ok (.aload_n 0, 1) := by decide +kernel
theorem dX6_witness_73 : decode cX6_witness 73 = .ok (.getfield 16, 3) := by decide +kernel
theorem dX6_witness_76 : decode cX6_witness 76 = .ok (.iconst 3, 1) := by decide +kernel
theorem dX6_witness_77 : decode cX6_witness 77 = .ok (.aload_n 0, 1) := by decide +kernel
theorem dX6_witness_78 : decode cX6_witness 78 = .ok (.getfield 78, 3) := by decide +kernel
theorem dX6_witness_81 : decode cX6_witness 81 = .ok (.imul, 1) := by decide +kernel
theorem dX6_witness_82 : decode cX6_witness 82 = .ok (.iload_n 2, 1) := by decide +kernel
theorem dX6_witness_83 : decode cX6_witness 83 = .ok (.iastore, 1) := by decide +kernel
theorem dX6_witness_84 : decode cX6_witness 84 = .ok (.aload_n 0, 1) := by decide +kernel
theorem dX6_witness_85 : decode cX6_witness 85 = .ok (.getfield 16, 3) := by decide +kernel
theorem dX6_witness_88 : decode cX6_witness 88 = .ok (.iconst 3, 1) := by decide +kernel
theorem dX6_witness_89 : decode cX6_witness 89 = .ok (.aload_n 0, 1) := by decide +kernel
theorem dX6_witness_90 : decode cX6_witness 90 = .ok (.getfield 78, 3) := by decide +kernel
theorem dX6_witness_93 : decode cX6_witness 93 = .ok (.imul, 1) := by decide +kernel
theorem dX6_witness_94 : decode cX6_witness 94 = .ok (.iconst 1, 1) := by decide +kernel
theorem dX6_witness_95 : decode cX6_witness 95 = .ok (.iadd, 1) := by decide +kernel
theorem dX6_witness_96 : decode cX6_witness 96 = .ok (.iload_n 3, 1) := by decide +kernel
theorem dX6_witness_97 : decode cX6_witness 97 = .ok (.iastore, 1) := by decide +kernel
theorem dX6_witness_98 : decode cX6_witness 98 = .ok (.aload_n 0, 1) := by decide +kernel
theorem dX6_witness_99 : decode cX6_witness 99 = .ok (.getfield 16, 3) := by decide +kernel
theorem dX6_witness_102 : decode cX6_witness 102 = .ok (.iconst 3, 1) := by decide +kernel
theorem dX6_witness_103 : decode cX6_witness 103 = .ok (.aload_n 0, 1) := by decide +kernel
theorem dX6_witness_104 : decode cX6_witness 104 = .ok (.getfield 78, 3) := by decide +kernel
theorem dX6_witness_107 : decode cX6_witness 107 = .ok (.imul, 1) := by decide +kernel
theorem dX6_witness_108 : decode cX6_witness 108 = .ok (.iconst 2, 1) := by decide +kernel
theorem dX6_witness_109 : decode cX6_witness 109 = .ok (.iadd, 1) := by decide +kernel
theorem dX6_witness_110 : decode cX6_witness 110 = .ok (.iconst 0, 1) := by decide +kernel
theorem dX6_witness_111 : decode cX6_witness 111 = .ok (.iastore, 1) := by decide +kernel
theorem dX6_witness_112 : decode cX6_witness 112 = .ok (.aload_n 0, 1) := by decide +kernel
theorem dX6_witness_113 : decode cX6_witness 113 = .ok (.dup, 1) := by decide +kernel
theorem dX6_witness_114 : decode cX6_witness 114 = .ok (.getfield 78, 3) := by decide +kernel
theorem dX6_witness_117 : decode cX6_witness 117 = .ok (.iconst 1, 1) := by decide +kernel
theorem dX6_witness_118 : decode cX6_witness 118 = .ok (.iadd, 1) := by decide +kernel
theorem dX6_witness_119 : decode cX6_witness 119 = .ok (.putfield 78, 3) := by decide +kernel
theorem dX6_witness_122 : decode cX6_witness 122 = .ok (.aload_n 0, 1) := by decide +kernel
theorem dX6_witness_123 : decode cX6_witness 123 = .ok (.getfield 78, 3) := by decide +kernel
theorem dX6_witness_126 : decode cX6_witness 126 = .ok (.iconst 1, 1) := by decide +kernel
theorem dX6_witness_127 : decode cX6_witness 127 = .ok (.isub, 1) := by decide +kernel
theorem dX6_witness_128 : decode cX6_witness 128 = .ok (.ireturn, 1) := by decide +kernel
set_option maxRecDepth 20000 in
theorem ggX6_put_X6_isOne : GoodIn wsX6_put wsX6_isOne := goodIn_r _ [6, 7, 8, 9, 5, 10, 11, 12, 13, 14, 15, 16, 17, 18, 19, 20, 21, 22, 23, 24, 25, 26, 27, 28, 29, 30, 31, 32, 33, 34, 35, 36, 37, 38, 39, 40, 41, 42, 43, 44, 45, 46, 47, 48] (by decide +kernel) (by decide +kernel)
set_option maxRecDepth 20000 in
theorem gX6_put_X6_isOne : GoodIn wsX6_put (wsV RX6 183 RX6 yX6_isOne wsX6_isOne) := goodIn_app (goodIn_of _ (by decide +kernel)) ggX6_put_X6_isOne
set_option maxRecDepth 20000 in
theorem ggX6_put_X6_in : GoodIn wsX6_put wsX6_in := goodIn_r _ [10] (by decide +kernel) (by decide +kernel)
set_option maxRecDepth 20000 in
theorem gX6_put_X6_in : GoodIn wsX6_put (va_wsS RX6 81 yX6_in wsX6_in) := goodIn_app (goodIn_of _ (by decide +kernel)) ggX6_put_X6_in
theorem dX6_put_0 : decode cX6_put 0 = .ok (.aload_n 0, 1) := by decide +kernel
theorem dX6_put_1 : decode cX6_put 1 = .ok (.iload_n 1, 1) := by decide +kernel
theorem dX6_put_2 : decode cX6_put 2 = .ok (.invokevirtual 183, 3) := by decide +kernel
theorem dX6_put_5 : decode cX6_put 5 = .ok (.ifCond .ne 6, 3) := by decide +kernel
theorem dX6_put_8 : decode cX6_put 8 = .ok (.bipush (-5), 2) := by decide +kernel
theorem dX6_put_10 : decode cX6_put 10 = .ok (.ireturn, 1) := by decide +kernel
theorem dX6_put_11 : decode cX6_put 11 = .ok (.iload_n 2, 1) := by decide +kernel
theorem dX6_put_12 : decode cX6_put 12 = .ok (.iconst 0, 1) := by decide +kernel
theorem dX6_put_13 : decode cX6_put 13 = .ok (.iconst 1, 1) := by decide +kernel
theorem dX6_put_14 : decode cX6_put 14 = .ok (.invokestatic 81, 3) := by decide +kernel
theorem dX6_put_17 : decode cX6_put 17 = .ok (.ifCond .eq 23, 3) := by decide +kernel
theorem dX6_put_20 : decode cX6_put 20 = .ok (.iload_n 3, 1) := by decide +kernel
theorem dX6_put_21 : decode cX6_put 21 = .ok (.iconst 0, 1) := by decide +kernel
theorem dX6_put_22 : decode cX6_put 22 = .ok (.iload_n 2, 1) := by decide +kernel
theorem dX6_put_23 : decode cX6_put 23 = .ok (.ifCond .ne 9, 3) := by decide +kernel
theorem dX6_put_26 : decode cX6_put 26 = .ok (.sipush 1023, 3) := by decide +kernel
theorem dX6_put_29 : decode cX6_put 29 = .ok (.goto 5, 3) := by decide +kernel
theorem dX6_put_32 : decode cX6_put 32 = .ok (.bipush 99, 2) := by decide +kernel
theorem dX6_put_34 : decode cX6_put 34 = .ok (.invokestatic 81, 3) := by decide +kernel
theorem dX6_put_37 : decode cX6_put 37 = .ok (.ifCond .ne 6, 3) := by decide +kernel
theorem dX6_put_40 : decode cX6_put 40 = .ok (.bipush (-7), 2) := by decide +kernel
theorem dX6_put_42 : decode cX6_put 42 = .ok (.ireturn, 1) := by decide +kernel
theorem dX6_put_43 : decode cX6_put 43 = .ok (.aload_n 0, 1) := by decide +kernel
theorem dX6_put_44 : decode cX6_put 44 = .ok (.getfield 16, 3) := by decide +kernel
theorem dX6_put_47 : decode cX6_put 47 = .ok (.iconst 3, 1) := by decide +kernel
theorem dX6_put_48 : decode cX6_put 48 = .ok (.iload_n 1, 1) := by decide +kernel
theorem dX6_put_49 : decode cX6_put 49 = .ok (.imul, 1) := by decide +kernel
theorem dX6_put_50 : decode cX6_put 50 = .ok (.iload_n 2, 1) := by decide +kernel
theorem dX6_put_51 : decode cX6_put 51 = .ok (.iadd, 1) := by decide +kernel
theorem dX6_put_52 : decode cX6_put 52 = .ok (.iaload, 1) := by decide +kernel
theorem dX6_put_53 : decode cX6_put 53 = .ok (.istore 4, 2) := by decide +kernel
theorem dX6_put_55 : decode cX6_put 55 = .ok (.aload_n 0, 1) := by decide +kernel
theorem dX6_put_56 : decode cX6_put 56 = .ok (.getfield 16, 3) := by decide +kernel
theorem dX6_put_59 : decode cX6_put 59 = .ok (.iconst 3, 1) := by decide +kernel
theorem dX6_put_60 : decode cX6_put 60 = .ok (.iload_n 1, 1) := by decide +kernel
theorem dX6_put_61 : decode cX6_put 61 = .ok (.imul, 1) := by decide +kernel
theorem dX6_put_62 : decode cX6_put 62 = .ok (.iload_n 2, 1) := by decide +kernel
theorem dX6_put_63 : decode cX6_put 63 = .ok (.iadd, 1) := by decide +kernel
theorem dX6_put_64 : decode cX6_put 64 = .ok (.iload_n 3, 1) := by decide +kernel
theorem dX6_put_65 : decode cX6_put 65 = .ok (.iastore, 1) := by decide +kernel
theorem dX6_put_66 : decode cX6_put 66 = .ok (.iload 4, 2) := by decide +kernel
theorem dX6_put_68 : decode cX6_put 68 = .ok (.ireturn, 1) := by decide +kernel
set_option maxRecDepth 20000 in
theorem ggX6_looksOf_X6_asksOf : GoodIn wsX6_looksOf wsX6_asksOf := goodIn_r _ [7, 8, 9, 10, 11, 2, 12, 13, 6, 14, 15, 16, 17, 18, 19, 20, 21, 22, 23, 24, 25, 26, 27, 28, 29, 30, 31, 32, 33, 34, 35, 36, 37, 38, 39, 40, 41, 42, 43, 44, 45, 46, 47, 48, 49, 50, 51, 52, 53, 54, 55, 56, 57, 58, 59, 60, 61, 62, 63, 64, 65, 66, 67, 68, 69, 70, 71, 72, 73, 74, 75, 76, 77, 78, 79] (by decide +kernel) (by decide +kernel)
set_option maxRecDepth 20000 in
theorem gX6_looksOf_X6_asksOf : GoodIn wsX6_looksOf (wsV RX6 186 RX6 yX6_asksOf wsX6_asksOf) := goodIn_app (goodIn_of _ (by decide +kernel)) ggX6_looksOf_X6_asksOf
set_option maxRecDepth 20000 in
theorem ggX6_looksOf_X6_within : GoodIn wsX6_looksOf wsX6_within := goodIn_r _ [29] (by decide +kernel) (by decide +kernel)
set_option maxRecDepth 20000 in
theorem gX6_looksOf_X6_within : GoodIn wsX6_looksOf (va_wsS RX6 85 yX6_within wsX6_within) := goodIn_app (goodIn_of _ (by decide +kernel)) ggX6_looksOf_X6_within
theorem dX6_looksOf_0 : decode cX6_looksOf 0 = .ok (.aload_n 0, 1) := by decide +kernel
theorem dX6_looksOf_1 : decode cX6_looksOf 1 = .ok (.getfield 7, 3) := by decide +kernel
theorem dX6_looksOf_4 : decode cX6_looksOf 4 = .ok (.iload_n 1, 1) := by decide +kernel
theorem dX6_looksOf_5 : decode cX6_looksOf 5 = .ok (.iaload, 1) := by decide +kernel
theorem dX6_looksOf_6 : decode cX6_looksOf 6 = .ok (.iconst 5, 1) := by decide +kernel
theorem dX6_looksOf_7 : decode cX6_looksOf 7 = .ok (.if_icmp .ne 5, 3) := by decide +kernel
theorem dX6_looksOf_10 : decode cX6_looksOf 10 = .ok (.iconst 0, 1) := by decide +kernel
theorem dX6_looksOf_11 : decode cX6_looksOf 11 = .ok (.ireturn, 1) := by decide +kernel
theorem dX6_looksOf_12 : decode cX6_looksOf 12 = .ok (.aload_n 0, 1) := by decide +kernel
theorem dX6_looksOf_13 : decode cX6_looksOf 13 = .ok (.iconst 0, 1) := by decide +kernel
theorem dX6_looksOf_14 : decode cX6_looksOf 14 = .ok (.iload_n 1, 1) := by decide +kernel
theorem dX6_looksOf_15 : decode cX6_looksOf 15 = .ok (.invokevirtual 186, 3) := by decide +kernel
theorem dX6_looksOf_18 : decode cX6_looksOf 18 = .ok (.istore_n 3, 1) := by decide +kernel
theorem dX6_looksOf_19 : decode cX6_looksOf 19 = .ok (.iload_n 2, 1) := by decide +kernel
theorem dX6_looksOf_20 : decode cX6_looksOf 20 = .ok (.aload_n 0, 1) := by decide +kernel
theorem dX6_looksOf_21 : decode cX6_looksOf 21 = .ok (.getfield 13, 3) := by decide +kernel
theorem dX6_looksOf_24 : decode cX6_looksOf 24 = .ok (.iload_n 1, 1) := by decide +kernel
theorem dX6_looksOf_25 : decode cX6_looksOf 25 = .ok (.iaload, 1) := by decide +kernel
theorem dX6_looksOf_26 : decode cX6_looksOf 26 = .ok (.bipush 6, 2) := by decide +kernel
theorem dX6_looksOf_28 : decode cX6_looksOf 28 = .ok (.irem, 1) := by decide +kernel
theorem dX6_looksOf_29 : decode cX6_looksOf 29 = .ok (.if_icmp .ne 8, 3) := by decide +kernel
theorem dX6_looksOf_32 : decode cX6_looksOf 32 = .ok (.bipush 99, 2) := by decide +kernel
theorem dX6_looksOf_34 : decode cX6_looksOf 34 = .ok (.goto 4, 3) := by decide +kernel
theorem dX6_looksOf_37 : decode cX6_looksOf 37 = .ok (.iload_n 3, 1) := by decide +kernel
theorem dX6_looksOf_38 : decode cX6_looksOf 38 = .ok (.istore 4, 2) := by decide +kernel
theorem dX6_looksOf_40 : decode cX6_looksOf 40 = .ok (.aload_n 0, 1) := by decide +kernel
theorem dX6_looksOf_41 : decode cX6_looksOf 41 = .ok (.getfield 7, 3) := by decide +kernel
theorem dX6_looksOf_44 : decode cX6_looksOf 44 = .ok (.iload_n 1, 1) := by decide +kernel
theorem dX6_looksOf_45 : decode cX6_looksOf 45 = .ok (.iaload, 1) := by decide +kernel
theorem dX6_looksOf_46 : decode cX6_looksOf 46 = .ok (.tableswitch 66 1 4 #[30, 33, 50, 33], 30) := by decide +kernel
theorem dX6_looksOf_76 : decode cX6_looksOf 76 = .ok (.iload 4, 2) := by decide +kernel
theorem dX6_looksOf_78 : decode cX6_looksOf 78 = .ok (.ireturn, 1) := by decide +kernel
theorem dX6_looksOf_79 : decode cX6_looksOf 79 = .ok (.iload_n 3, 1) := by decide +kernel
theorem dX6_looksOf_80 : decode cX6_looksOf 80 = .ok (.iconst 5, 1) := by decide +kernel
theorem dX6_looksOf_81 : decode cX6_looksOf 81 = .ok (.aload_n 0, 1) := by decide +kernel
theorem dX6_looksOf_82 : decode cX6_looksOf 82 = .ok (.getfield 13, 3) := by decide +kernel
theorem dX6_looksOf_85 : decode cX6_looksOf 85 = .ok (.iload_n 1, 1) := by decide +kernel
theorem dX6_looksOf_86 : decode cX6_looksOf 86 = .ok (.iaload, 1) := by decide +kernel
theorem dX6_looksOf_87 : decode cX6_looksOf 87 = .ok (.imul, 1) := by decide +kernel
theorem dX6_looksOf_88 : decode cX6_looksOf 88 = .ok (.isub, 1) := by decide +kernel
theorem dX6_looksOf_89 : decode cX6_looksOf 89 = .ok (.iconst 0, 1) := by decide +kernel
theorem dX6_looksOf_90 : decode cX6_looksOf 90 = .ok (.bipush 99, 2) := by decide +kernel
theorem dX6_looksOf_92 : decode cX6_looksOf 92 = .ok (.invokestatic 85, 3) := by decide +kernel
theorem dX6_looksOf_95 : decode cX6_looksOf 95 = .ok (.ireturn, 1) := by decide +kernel
theorem dX6_looksOf_96 : decode cX6_looksOf 96 = .ok (.iload_n 2, 1) := by decide +kernel
theorem dX6_looksOf_97 : decode cX6_looksOf 97 = .ok (.iconst 2, 1) := by decide +kernel
theorem dX6_looksOf_98 : decode cX6_looksOf 98 = .ok (.irem, 1) := by decide +kernel
theorem dX6_looksOf_99 : decode cX6_looksOf 99 = .ok (.ifCond .ne 10, 3) := by decide +kernel
theorem dX6_looksOf_102 : decode cX6_looksOf 102 = .ok (.iload 4, 2) := by decide +kernel
theorem dX6_looksOf_104 : decode cX6_looksOf 104 = .ok (.iconst 2, 1) := by decide +kernel
theorem dX6_looksOf_105 : decode cX6_looksOf 105 = .ok (.idiv, 1) := by decide +kernel
theorem dX6_looksOf_106 : decode cX6_looksOf 106 = .ok (.goto 5, 3) := by decide +kernel
theorem dX6_looksOf_109 : decode cX6_looksOf 109 = .ok (.iload 4, 2) := by decide +kernel
theorem dX6_looksOf_111 : decode cX6_looksOf 111 = .ok (.ireturn, 1) := by decide +kernel
theorem dX6_looksOf_112 : decode cX6_looksOf 112 = .ok (.iload_n 3, 1) := by decide +kernel
theorem dX6_looksOf_113 : decode cX6_looksOf 113 = .ok (.ireturn, 1) := by decide +kernel
set_option maxRecDepth 20000 in
theorem ggX6_waitsOf_X6_asksOf : GoodIn wsX6_waitsOf wsX6_asksOf := goodIn_r _ [8, 9, 10, 2, 11, 3, 12, 13, 7, 14, 15, 16, 17, 18, 19, 20, 21, 22, 23, 24, 25, 26, 27, 28, 29, 30, 31, 32, 33, 34, 35, 36, 37, 38, 39, 40, 41, 42, 43, 44, 45, 46, 47, 48, 49, 50, 51, 52, 53, 54, 55, 56, 57, 58, 59, 60, 61, 62, 63, 64, 65, 66, 67, 68, 69, 70, 71, 72, 73, 74, 75, 76, 77, 78, 79] (by decide +kernel) (by decide +kernel)
set_option maxRecDepth 20000 in
theorem gX6_waitsOf_X6_asksOf : GoodIn wsX6_waitsOf (wsV RX6 186 RX6 yX6_asksOf wsX6_asksOf) := goodIn_app (goodIn_of _ (by decide +kernel)) ggX6_waitsOf_X6_asksOf
set_option maxRecDepth 20000 in
theorem ggX6_waitsOf_X6_within : GoodIn wsX6_waitsOf wsX6_within := goodIn_r _ [29] (by decide +kernel) (by decide +kernel)
set_option maxRecDepth 20000 in
theorem gX6_waitsOf_X6_within : GoodIn wsX6_waitsOf (va_wsS RX6 85 yX6_within wsX6_within) := goodIn_app (goodIn_of _ (by decide +kernel)) ggX6_waitsOf_X6_within
theorem dX6_waitsOf_0 : decode cX6_waitsOf 0 = .ok (.aload_n 0, 1) := by decide +kernel
theorem dX6_waitsOf_1 : decode cX6_waitsOf 1 = .ok (.iconst 1, 1) := by decide +kernel
theorem dX6_waitsOf_2 : decode cX6_waitsOf 2 = .ok (.iload_n 1, 1) := by decide +kernel
theorem dX6_waitsOf_3 : decode cX6_waitsOf 3 = .ok (.invokevirtual 186, 3) := by decide +kernel
theorem dX6_waitsOf_6 : decode cX6_waitsOf 6 = .ok (.istore_n 2, 1) := by decide +kernel
theorem dX6_waitsOf_7 : decode cX6_waitsOf 7 = .ok (.aload_n 0, 1) := by decide +kernel
theorem dX6_waitsOf_8 : decode cX6_waitsOf 8 = .ok (.getfield 7, 3) := by decide +kernel
theorem dX6_waitsOf_11 : decode cX6_waitsOf 11 = .ok (.iload_n 1, 1) := by decide +kernel
theorem dX6_waitsOf_12 : decode cX6_waitsOf 12 = .ok (.iaload, 1) := by decide +kernel
theorem dX6_waitsOf_13 : decode cX6_waitsOf 13 = .ok (.tableswitch 95 1 5 #[35, 95, 45, 76, 86], 35) := by decide +kernel
theorem dX6_waitsOf_48 : decode cX6_waitsOf 48 = .ok (.iload_n 2, 1) := by decide +kernel
theorem dX6_waitsOf_49 : decode cX6_waitsOf 49 = .ok (.iconst 2, 1) := by decide +kernel
theorem dX6_waitsOf_50 : decode cX6_waitsOf 50 = .ok (.idiv, 1) := by decide +kernel
theorem dX6_waitsOf_51 : decode cX6_waitsOf 51 = .ok (.iconst 1, 1) := by decide +kernel
theorem dX6_waitsOf_52 : decode cX6_waitsOf 52 = .ok (.bipush 99, 2) := by decide +kernel
theorem dX6_waitsOf_54 : decode cX6_waitsOf 54 = .ok (.invokestatic 85, 3) := by decide +kernel
theorem dX6_waitsOf_57 : decode cX6_waitsOf 57 = .ok (.ireturn, 1) := by decide +kernel
theorem dX6_waitsOf_58 : decode cX6_waitsOf 58 = .ok (.aload_n 0, 1) := by decide +kernel
theorem dX6_waitsOf_59 : decode cX6_waitsOf 59 = .ok (.getfield 93, 3) := by decide +kernel
theorem dX6_waitsOf_62 : decode cX6_waitsOf 62 = .ok (.iconst 5, 1) := by decide +kernel
theorem dX6_waitsOf_63 : decode cX6_waitsOf 63 = .ok (.irem, 1) := by decide +kernel
theorem dX6_waitsOf_64 : decode cX6_waitsOf 64 = .ok (.ifCond .ne 8, 3) := by decide +kernel
theorem dX6_waitsOf_67 : decode cX6_waitsOf 67 = .ok (.bipush 99, 2) := by decide +kernel
theorem dX6_waitsOf_69 : decode cX6_waitsOf 69 = .ok (.goto 19, 3) := by decide +kernel
theorem dX6_waitsOf_72 : decode cX6_waitsOf 72 = .ok (.iload_n 2, 1) := by decide +kernel
theorem dX6_waitsOf_73 : decode cX6_waitsOf 73 = .ok (.iconst 2, 1) := by decide +kernel
theorem dX6_waitsOf_74 : decode cX6_waitsOf 74 = .ok (.idiv, 1) := by decide +kernel
theorem dX6_waitsOf_75 : decode cX6_waitsOf 75 = .ok (.aload_n 0, 1) := by decide +kernel
theorem dX6_waitsOf_76 : decode cX6_waitsOf 76 = .ok (.getfield 13, 3) := by decide +kernel
theorem dX6_waitsOf_79 : decode cX6_waitsOf 79 = .ok (.iload_n 1, 1) := by decide +kernel
theorem dX6_waitsOf_80 : decode cX6_waitsOf 80 = .ok (.iaload, 1) := by decide +kernel
theorem dX6_waitsOf_81 : decode cX6_waitsOf 81 = .ok (.iadd, 1) := by decide +kernel
theorem dX6_waitsOf_82 : decode cX6_waitsOf 82 = .ok (.iconst 1, 1) := by decide +kernel
theorem dX6_waitsOf_83 : decode cX6_waitsOf 83 = .ok (.bipush 99, 2) := by decide +kernel
theorem dX6_waitsOf_85 : decode cX6_waitsOf 85 = .ok (.invokestatic 85, 3) := by decide +kernel
theorem dX6_waitsOf_88 : decode cX6_waitsOf 88 = .ok (.ireturn, 1) := by decide +kernel
theorem dX6_waitsOf_89 : decode cX6_waitsOf 89 = .ok (.iconst 2, 1) := by decide +kernel
theorem dX6_waitsOf_90 : decode cX6_waitsOf 90 = .ok (.iload_n 2, 1) := by decide +kernel
theorem dX6_waitsOf_91 : decode cX6_waitsOf 91 = .ok (.imul, 1) := by decide +kernel
theorem dX6_waitsOf_92 : decode cX6_waitsOf 92 = .ok (.iconst 1, 1) := by decide +kernel
theorem dX6_waitsOf_93 : decode cX6_waitsOf 93 = .ok (.bipush 99, 2) := by decide +kernel
theorem dX6_waitsOf_95 : decode cX6_waitsOf 95 = .ok (.invokestatic 85, 3) := by decide +kernel
theorem dX6_waitsOf_98 : decode cX6_waitsOf 98 = .ok (.ireturn, 1) := by decide +kernel
theorem dX6_waitsOf_99 : decode cX6_waitsOf 99 = .ok (.iconst 1, 1) := by decide +kernel
theorem dX6_waitsOf_100 : decode cX6_waitsOf 100 = .ok (.aload_n 0, 1) := by decide +kernel
theorem dX6_waitsOf_101 : decode cX6_waitsOf 101 = .ok (.getfield 13, 3) := by decide +kernel
theorem dX6_waitsOf_104 : decode cX6_waitsOf 104 = .ok (.iload_n 1, 1) := by decide +kernel
theorem dX6_waitsOf_105 : decode cX6_waitsOf 105 = .ok (.iaload, 1) := by decide +kernel
theorem dX6_waitsOf_106 : decode cX6_waitsOf 106 = .ok (.iadd, 1) := by decide +kernel
theorem dX6_waitsOf_107 : decode cX6_waitsOf 107 = .ok (.ireturn, 1) := by decide +kernel
theorem dX6_waitsOf_108 : decode cX6_waitsOf 108 = .ok (.iload_n 2, 1) := by decide +kernel
theorem dX6_waitsOf_109 : decode cX6_waitsOf 109 = .ok (.iconst 1, 1) := by decide +kernel
theorem dX6_waitsOf_110 : decode cX6_waitsOf 110 = .ok (.bipush 99, 2) := by decide +kernel
theorem dX6_waitsOf_112 : decode cX6_waitsOf 112 = .ok (.invokestatic 85, 3) := by decide +kernel
theorem dX6_waitsOf_115 : decode cX6_waitsOf 115 = .ok (.ireturn, 1) := by decide +kernel
set_option maxRecDepth 20000 in
theorem ggX6_dropsOf_X6_onesOf : GoodIn wsX6_dropsOf wsX6_onesOf := goodIn_r _ [7] (by decide +kernel) (by decide +kernel)
set_option maxRecDepth 20000 in
theorem gX6_dropsOf_X6_onesOf : GoodIn wsX6_dropsOf (va_wsS RX6 177 yX6_onesOf wsX6_onesOf) := goodIn_app (goodIn_of _ (by decide +kernel)) ggX6_dropsOf_X6_onesOf
set_option maxRecDepth 20000 in
theorem ggX6_dropsOf_X6_asksOf : GoodIn wsX6_dropsOf wsX6_asksOf := goodIn_r _ [11, 12, 1, 13, 14, 3, 4, 5, 6, 7, 15, 16, 17, 18, 19, 20, 21, 22, 23, 24, 25, 26, 27, 28, 29, 30, 31, 32, 33, 34, 35, 36, 37, 38, 39, 40, 41, 45, 46, 47, 48, 49, 50, 51, 52, 53, 54, 55, 56, 57, 58, 59, 60, 61, 62, 63, 64, 65, 66, 67, 68, 69, 70, 71, 72, 73, 74, 75, 76, 77, 78, 79, 80, 81, 82] (by decide +kernel) (by decide +kernel)
set_option maxRecDepth 20000 in
theorem gX6_dropsOf_X6_asksOf : GoodIn wsX6_dropsOf (wsV RX6 186 RX6 yX6_asksOf wsX6_asksOf) := goodIn_app (goodIn_of _ (by decide +kernel)) ggX6_dropsOf_X6_asksOf
set_option maxRecDepth 20000 in
theorem ggX6_dropsOf_X6_nthOf : GoodIn wsX6_dropsOf wsX6_nthOf := goodIn_r _ [44] (by decide +kernel) (by decide +kernel)
set_option maxRecDepth 20000 in
theorem gX6_dropsOf_X6_nthOf : GoodIn wsX6_dropsOf (va_wsS RX6 189 yX6_nthOf wsX6_nthOf) := goodIn_app (goodIn_of _ (by decide +kernel)) ggX6_dropsOf_X6_nthOf
theorem dX6_dropsOf_0 : decode cX6_dropsOf 0 = .ok (.aload_n 0, 1) := by decide +kernel
theorem dX6_dropsOf_1 : decode cX6_dropsOf 1 = .ok (.getfield 16, 3) := by decide +kernel
theorem dX6_dropsOf_4 : decode cX6_dropsOf 4 = .ok (.iconst 3, 1) := by decide +kernel
theorem dX6_dropsOf_5 : decode cX6_dropsOf 5 = .ok (.iload_n 1, 1) := by decide +kernel
theorem dX6_dropsOf_6 : decode cX6_dropsOf 6 = .ok (.imul, 1) := by decide +kernel
theorem dX6_dropsOf_7 : decode cX6_dropsOf 7 = .ok (.iaload, 1) := by decide +kernel
theorem dX6_dropsOf_8 : decode cX6_dropsOf 8 = .ok (.invokestatic 177, 3) := by decide +kernel
theorem dX6_dropsOf_11 : decode cX6_dropsOf 11 = .ok (.istore_n 2, 1) := by decide +kernel
theorem dX6_dropsOf_12 : decode cX6_dropsOf 12 = .ok (.iload_n 2, 1) := by decide +kernel
theorem dX6_dropsOf_13 : decode cX6_dropsOf 13 = .ok (.ifCond .ne 5, 3) := by decide +kernel
theorem dX6_dropsOf_16 : decode cX6_dropsOf 16 = .ok (.iconst (-1), 1) := by decide +kernel
theorem dX6_dropsOf_17 : decode cX6_dropsOf 17 = .ok (.ireturn, 1) := by decide +kernel
theorem dX6_dropsOf_18 : decode cX6_dropsOf 18 = .ok (.aload_n 0, 1) := by decide +kernel
theorem dX6_dropsOf_19 : decode cX6_dropsOf 19 = .ok (.iconst 2, 1) := by decide +kernel
theorem dX6_dropsOf_20 : decode cX6_dropsOf 20 = .ok (.iload_n 1, 1) := by decide +kernel
theorem dX6_dropsOf_21 : decode cX6_dropsOf 21 = .ok (.invokevirtual 186, 3) := by decide +kernel
theorem dX6_dropsOf_24 : decode cX6_dropsOf 24 = .ok (.istore_n 3, 1) := by decide +kernel
theorem dX6_dropsOf_25 : decode cX6_dropsOf 25 = .ok (.iload_n 3, 1) := by decide +kernel
theorem dX6_dropsOf_26 : decode cX6_dropsOf 26 = .ok (.iload_n 2, 1) := by decide +kernel
theorem dX6_dropsOf_27 : decode cX6_dropsOf 27 = .ok (.irem, 1) := by decide +kernel
theorem dX6_dropsOf_28 : decode cX6_dropsOf 28 = .ok (.ifCond .ge 11, 3) := by decide +kernel
theorem dX6_dropsOf_31 : decode cX6_dropsOf 31 = .ok (.iload_n 3, 1) := by decide +kernel
theorem dX6_dropsOf_32 : decode cX6_dropsOf 32 = .ok (.iload_n 2, 1) := by decide +kernel
theorem dX6_dropsOf_33 : decode cX6_dropsOf 33 = .ok (.irem, 1) := by decide +kernel
theorem dX6_dropsOf_34 : decode cX6_dropsOf 34 = .ok (.iload_n 2, 1) := by decide +kernel
theorem dX6_dropsOf_35 : decode cX6_dropsOf 35 = .ok (.iadd, 1) := by decide +kernel
theorem dX6_dropsOf_36 : decode cX6_dropsOf 36 = .ok (.goto 6, 3) := by decide +kernel
theorem dX6_dropsOf_39 : decode cX6_dropsOf 39 = .ok (.iload_n 3, 1) := by decide +kernel
theorem dX6_dropsOf_40 : decode cX6_dropsOf 40 = .ok (.iload_n 2, 1) := by decide +kernel
theorem dX6_dropsOf_41 : decode cX6_dropsOf 41 = .ok (.irem, 1) := by decide +kernel
theorem dX6_dropsOf_42 : decode cX6_dropsOf 42 = .ok (.istore 4, 2) := by decide +kernel
theorem dX6_dropsOf_44 : decode cX6_dropsOf 44 = .ok (.iload_n 2, 1) := by decide +kernel
theorem dX6_dropsOf_45 : decode cX6_dropsOf 45 = .ok (.iconst 1, 1) := by decide +kernel
theorem dX6_dropsOf_46 : decode cX6_dropsOf 46 = .ok (.isub, 1) := by decide +kernel
theorem dX6_dropsOf_47 : decode cX6_dropsOf 47 = .ok (.iload 4, 2) := by decide +kernel
theorem dX6_dropsOf_49 : decode cX6_dropsOf 49 = .ok (.isub, 1) := by decide +kernel
theorem dX6_dropsOf_50 : decode cX6_dropsOf 50 = .ok (.istore 5, 2) := by decide +kernel
theorem dX6_dropsOf_52 : decode cX6_dropsOf 52 = .ok (.iload 4, 2) := by decide +kernel
theorem dX6_dropsOf_54 : decode cX6_dropsOf 54 = .ok (.istore 6, 2) := by decide +kernel
theorem dX6_dropsOf_56 : decode cX6_dropsOf 56 = .ok (.aload_n 0, 1) := by decide +kernel
theorem dX6_dropsOf_57 : decode cX6_dropsOf 57 = .ok (.getfield 7, 3) := by decide +kernel
theorem dX6_dropsOf_60 : decode cX6_dropsOf 60 = .ok (.iload_n 1, 1) := by decide +kernel
theorem dX6_dropsOf_61 : decode cX6_dropsOf 61 = .ok (.iaload, 1) := by decide +kernel
theorem dX6_dropsOf_62 : decode cX6_dropsOf 62 = .ok (.iconst 2, 1) := by decide +kernel
theorem dX6_dropsOf_63 : decode cX6_dropsOf 63 = .ok (.if_icmp .ne 7, 3) := by decide +kernel
theorem dX6_dropsOf_66 : decode cX6_dropsOf 66 = .ok (.iload 5, 2) := by decide +kernel
theorem dX6_dropsOf_68 : decode cX6_dropsOf 68 = .ok (.istore 6, 2) := by decide +kernel
theorem dX6_dropsOf_70 : decode cX6_dropsOf 70 = .ok (.aload_n 0, 1) := by decide +kernel
theorem dX6_dropsOf_71 : decode cX6_dropsOf 71 = .ok (.getfield 7, 3) := by decide +kernel
theorem dX6_dropsOf_74 : decode cX6_dropsOf 74 = .ok (.iload_n 1, 1) := by decide +kernel
theorem dX6_dropsOf_75 : decode cX6_dropsOf 75 = .ok (.iaload, 1) := by decide +kernel
theorem dX6_dropsOf_76 : decode cX6_dropsOf 76 = .ok (.iconst 4, 1) := by decide +kernel
theorem dX6_dropsOf_77 : decode cX6_dropsOf 77 = .ok (.if_icmp .ne 31, 3) := by decide +kernel
theorem dX6_dropsOf_80 : decode cX6_dropsOf 80 = .ok (.iload 5, 2) := by decide +kernel
theorem dX6_dropsOf_82 : decode cX6_dropsOf 82 = .ok (.aload_n 0, 1) := by decide +kernel
theorem dX6_dropsOf_83 : decode cX6_dropsOf 83 = .ok (.getfield 13, 3) := by decide +kernel
theorem dX6_dropsOf_86 : decode cX6_dropsOf 86 = .ok (.iload_n 1, 1) := by decide +kernel
theorem dX6_dropsOf_87 : decode cX6_dropsOf 87 = .ok (.iaload, 1) := by decide +kernel
theorem dX6_dropsOf_88 : decode cX6_dropsOf 88 = .ok (.iload_n 2, 1) := by decide +kernel
theorem dX6_dropsOf_89 : decode cX6_dropsOf 89 = .ok (.irem, 1) := by decide +kernel
theorem dX6_dropsOf_90 : decode cX6_dropsOf 90 = .ok (.if_icmp .le 8, 3) := by decide +kernel
theorem dX6_dropsOf_93 : decode cX6_dropsOf 93 = .ok (.iload 5, 2) := by decide +kernel
theorem dX6_dropsOf_95 : decode cX6_dropsOf 95 = .ok (.goto 11, 3) := by decide +kernel
theorem dX6_dropsOf_98 : decode cX6_dropsOf 98 = .ok (.aload_n 0, 1) := by decide +kernel
theorem dX6_dropsOf_99 : decode cX6_dropsOf 99 = .ok (.getfield 13, 3) := by decide +kernel
theorem dX6_dropsOf_102 : decode cX6_dropsOf 102 = .ok (.iload_n 1, 1) := by decide +kernel
theorem dX6_dropsOf_103 : decode cX6_dropsOf 103 = .ok (.iaload, 1) := by decide +kernel
theorem dX6_dropsOf_104 : decode cX6_dropsOf 104 = .ok (.iload_n 2, 1) := by decide +kernel
theorem dX6_dropsOf_105 : decode cX6_dropsOf 105 = .ok (.irem, 1) := by decide +kernel
theorem dX6_dropsOf_106 : decode cX6_dropsOf 106 = .ok (.istore 6, 2) := by decide +kernel
theorem dX6_dropsOf_108 : decode cX6_dropsOf 108 = .ok (.aload_n 0, 1) := by decide +kernel
theorem dX6_dropsOf_109 : decode cX6_dropsOf 109 = .ok (.getfield 16, 3) := by decide +kernel
theorem dX6_dropsOf_112 : decode cX6_dropsOf 112 = .ok (.iconst 3, 1) := by decide +kernel
theorem dX6_dropsOf_113 : decode cX6_dropsOf 113 = .ok (.iload_n 1, 1) := by decide +kernel
theorem dX6_dropsOf_114 : decode cX6_dropsOf 114 = .ok (.imul, 1) := by decide +kernel
theorem dX6_dropsOf_115 : decode cX6_dropsOf 115 = .ok (.iaload, 1) := by decide +kernel
theorem dX6_dropsOf_116 : decode cX6_dropsOf 116 = .ok (.iload 6, 2) := by decide +kernel
theorem dX6_dropsOf_118 : decode cX6_dropsOf 118 = .ok (.invokestatic 189, 3) := by decide +kernel
theorem dX6_dropsOf_121 : decode cX6_dropsOf 121 = .ok (.ireturn, 1) := by decide +kernel
set_option maxRecDepth 20000 in
theorem ggX6_doesStoop_X6_looksOf : GoodIn wsX6_doesStoop wsX6_looksOf := goodIn_r _ [6, 7, 8, 9, 10, 11, 5, 12, 13, 14, 15, 16, 17, 18, 19, 20, 21, 22, 23, 24, 25, 26, 27, 28, 29, 30, 31, 32, 33, 34, 35, 36, 37, 38, 39, 40, 41, 42, 43, 44, 45, 46, 47, 48, 49, 50, 51, 52, 53, 54, 55, 56, 57, 58, 59, 60, 61, 62, 63, 64, 65, 66, 67, 68, 69, 70, 71, 72, 73, 74, 75, 76, 77, 78, 79, 80, 81, 82, 83, 84] (by decide +kernel) (by decide +kernel)
set_option maxRecDepth 20000 in
theorem gX6_doesStoop_X6_looksOf : GoodIn wsX6_doesStoop (wsV RX6 192 RX6 yX6_looksOf wsX6_looksOf) := goodIn_app (goodIn_of _ (by decide +kernel)) ggX6_doesStoop_X6_looksOf
theorem dX6_doesStoop_0 : decode cX6_doesStoop 0 = .ok (.aload_n 0, 1) := by decide +kernel
theorem dX6_doesStoop_1 : decode cX6_doesStoop 1 = .ok (.getfield 25, 3) := by decide +kernel
theorem dX6_doesStoop_4 : decode cX6_doesStoop 4 = .ok (.iload_n 1, 1) := by decide +kernel
theorem dX6_doesStoop_5 : decode cX6_doesStoop 5 = .ok (.iaload, 1) := by decide +kernel
theorem dX6_doesStoop_6 : decode cX6_doesStoop 6 = .ok (.aload_n 0, 1) := by decide +kernel
theorem dX6_doesStoop_7 : decode cX6_doesStoop 7 = .ok (.iload_n 2, 1) := by decide +kernel
theorem dX6_doesStoop_8 : decode cX6_doesStoop 8 = .ok (.iload_n 1, 1) := by decide +kernel
theorem dX6_doesStoop_9 : decode cX6_doesStoop 9 = .ok (.invokevirtual 192, 3) := by decide +kernel
theorem dX6_doesStoop_12 : decode cX6_doesStoop 12 = .ok (.iadd, 1) := by decide +kernel
theorem dX6_doesStoop_13 : decode cX6_doesStoop 13 = .ok (.bipush 100, 2) := by decide +kernel
theorem dX6_doesStoop_15 : decode cX6_doesStoop 15 = .ok (.if_icmp .lt 7, 3) := by decide +kernel
theorem dX6_doesStoop_18 : decode cX6_doesStoop 18 = .ok (.iconst 1, 1) := by decide +kernel
theorem dX6_doesStoop_19 : decode cX6_doesStoop 19 = .ok (.goto 4, 3) := by decide +kernel
theorem dX6_doesStoop_22 : decode cX6_doesStoop 22 = .ok (.iconst 0, 1) := by decide +kernel
theorem dX6_doesStoop_23 : decode cX6_doesStoop 23 = .ok (.ireturn, 1) := by decide +kernel
theorem dX6_ownLinens_0 : decode cX6_ownLinens 0 = .ok (.iconst 0, 1) := by decide +kernel
theorem dX6_ownLinens_1 : decode cX6_ownLinens 1 = .ok (.istore_n 2, 1) := by decide +kernel
theorem dX6_ownLinens_2 : decode cX6_ownLinens 2 = .ok (.iconst 0, 1) := by decide +kernel
theorem dX6_ownLinens_3 : decode cX6_ownLinens 3 = .ok (.istore_n 3, 1) := by decide +kernel
theorem dX6_ownLinens_4 : decode cX6_ownLinens 4 = .ok (.iload_n 3, 1) := by decide +kernel
theorem dX6_ownLinens_5 : decode cX6_ownLinens 5 = .ok (.bipush 8, 2) := by decide +kernel
theorem dX6_ownLinens_7 : decode cX6_ownLinens 7 = .ok (.if_icmp .ge 31, 3) := by decide +kernel
theorem dX6_ownLinens_10 : decode cX6_ownLinens 10 = .ok (.iload_n 2, 1) := by decide +kernel
theorem dX6_ownLinens_11 : decode cX6_ownLinens 11 = .ok (.aload_n 0, 1) := by decide +kernel
theorem dX6_ownLinens_12 : decode cX6_ownLinens 12 = .ok (.getfield 19, 3) := by decide +kernel
theorem dX6_ownLinens_15 : decode cX6_ownLinens 15 = .ok (.iconst 3, 1) := by decide +kernel
theorem dX6_ownLinens_16 : decode cX6_ownLinens 16 = .ok (.iload_n 3, 1) := by decide +kernel
theorem dX6_ownLinens_17 : decode cX6_ownLinens 17 = .ok (.imul, 1) := by decide +kernel
theorem dX6_ownLinens_18 : decode cX6_ownLinens 18 = .ok (.iaload, 1) := by decide +kernel
theorem dX6_ownLinens_19 : decode cX6_ownLinens 19 = .ok (.iload_n 1, 1) := by decide +kernel
theorem dX6_ownLinens_20 : decode cX6_ownLinens 20 = .ok (.if_icmp .ne 9, 3) := by decide +kernel
theorem dX6_ownLinens_23 : decode cX6_ownLinens 23 = .ok (.iconst 1, 1) := by decide +kernel
theorem dX6_ownLinens_24 : decode cX6_ownLinens 24 = .ok (.iload_n 3, 1) := by decide +kernel
theorem dX6_ownLinens_25 : decode cX6_ownLinens 25 = .ok (.ishl, 1) := by decide +kernel
theorem dX6_ownLinens_26 : decode cX6_ownLinens 26 = .ok (.goto 4, 3) := by decide +kernel
theorem dX6_ownLinens_29 : decode cX6_ownLinens 29 = .ok (.iconst 0, 1) := by decide +kernel
theorem dX6_ownLinens_30 : decode cX6_ownLinens 30 = .ok (.ior, 1) := by decide +kernel
theorem dX6_ownLinens_31 : decode cX6_ownLinens 31 = .ok (.istore_n 2, 1) := by decide +kernel
theorem dX6_ownLinens_32 : decode cX6_ownLinens 32 = .ok (.iinc 3 1, 3) := by decide +kernel
theorem dX6_ownLinens_35 : decode cX6_ownLinens 35 = .ok (.goto (-31), 3) := by decide +kernel
theorem dX6_ownLinens_38 : decode cX6_ownLinens 38 = .ok (.iload_n 2, 1) := by decide +kernel
theorem dX6_ownLinens_39 : decode cX6_ownLinens 39 = .ok (.ireturn, 1) := by decide +kernel
set_option maxRecDepth 20000 in
theorem ggX6_stoopers_X6_doesStoop : GoodIn wsX6_stoopers wsX6_doesStoop := goodIn_r _ [5, 6, 7, 8, 9, 4, 10, 11, 12, 13, 14, 15, 16, 17, 18, 19, 20, 21, 22, 23, 24, 25, 26, 27, 28, 29, 30, 31, 32, 33, 34, 35, 36, 37, 38, 39, 40, 41, 42, 43, 44, 45, 46, 47, 48, 49, 50, 51, 52, 53, 54, 55, 56, 57, 58, 59, 60, 61, 62, 63, 64, 65, 66, 67, 68, 69, 70, 71, 72, 73, 74, 75, 76, 77, 78, 79, 80, 81, 82, 83, 84, 85, 86, 87, 88] (by decide +kernel) (by decide +kernel)
set_option maxRecDepth 20000 in
theorem gX6_stoopers_X6_doesStoop : GoodIn wsX6_stoopers (wsV RX6 195 RX6 yX6_doesStoop wsX6_doesStoop) := goodIn_app (goodIn_of _ (by decide +kernel)) ggX6_stoopers_X6_doesStoop
theorem dX6_stoopers_0 : decode cX6_stoopers 0 = .ok (.iconst 0, 1) := by decide +kernel
theorem dX6_stoopers_1 : decode cX6_stoopers 1 = .ok (.istore_n 2, 1) := by decide +kernel
theorem dX6_stoopers_2 : decode cX6_stoopers 2 = .ok (.iconst 0, 1) := by decide +kernel
theorem dX6_stoopers_3 : decode cX6_stoopers 3 = .ok (.istore_n 3, 1) := by decide +kernel
theorem dX6_stoopers_4 : decode cX6_stoopers 4 = .ok (.iload_n 3, 1) := by decide +kernel
theorem dX6_stoopers_5 : decode cX6_stoopers 5 = .ok (.bipush 6, 2) := by decide +kernel
theorem dX6_stoopers_7 : decode cX6_stoopers 7 = .ok (.if_icmp .ge 28, 3) := by decide +kernel
theorem dX6_stoopers_10 : decode cX6_stoopers 10 = .ok (.iload_n 2, 1) := by decide +kernel
theorem dX6_stoopers_11 : decode cX6_stoopers 11 = .ok (.aload_n 0, 1) := by decide +kernel
theorem dX6_stoopers_12 : decode cX6_stoopers 12 = .ok (.iload_n 3, 1) := by decide +kernel
theorem dX6_stoopers_13 : decode cX6_stoopers 13 = .ok (.iload_n 1, 1) := by decide +kernel
theorem dX6_stoopers_14 : decode cX6_stoopers 14 = .ok (.invokevirtual 195, 3) := by decide +kernel
theorem dX6_stoopers_17 : decode cX6_stoopers 17 = .ok (.ifCond .eq 9, 3) := by decide +kernel
theorem dX6_stoopers_20 : decode cX6_stoopers 20 = .ok (.iconst 1, 1) := by decide +kernel
theorem dX6_stoopers_21 : decode cX6_stoopers 21 = .ok (.iload_n 3, 1) := by decide +kernel
theorem dX6_stoopers_22 : decode cX6_stoopers 22 = .ok (.ishl, 1) := by decide +kernel
theorem dX6_stoopers_23 : decode cX6_stoopers 23 = .ok (.goto 4, 3) := by decide +kernel
theorem dX6_stoopers_26 : decode cX6_stoopers 26 = .ok (.iconst 0, 1) := by decide +kernel
theorem dX6_stoopers_27 : decode cX6_stoopers 27 = .ok (.ior, 1) := by decide +kernel
theorem dX6_stoopers_28 : decode cX6_stoopers 28 = .ok (.istore_n 2, 1) := by decide +kernel
theorem dX6_stoopers_29 : decode cX6_stoopers 29 = .ok (.iinc 3 1, 3) := by decide +kernel
theorem dX6_stoopers_32 : decode cX6_stoopers 32 = .ok (.goto (-28), 3) := by decide +kernel
theorem dX6_stoopers_35 : decode cX6_stoopers 35 = .ok (.iload_n 2, 1) := by decide +kernel
theorem dX6_stoopers_36 : decode cX6_stoopers 36 = .ok (.ireturn, 1) := by decide +kernel
set_option maxRecDepth 20000 in
theorem ggX6_told_X6_isOne : GoodIn wsX6_told wsX6_isOne := goodIn_r _ [8, 9, 10, 11, 7, 12, 75, 76, 77, 78, 79, 80, 81, 82, 83, 84, 85, 86, 87, 88, 89, 90, 91, 92, 93, 94, 95, 96, 97, 98, 99, 100, 101, 102, 103, 104, 105, 106, 107, 108, 109, 110, 111, 112] (by decide +kernel) (by decide +kernel)
set_option maxRecDepth 20000 in
theorem gX6_told_X6_isOne : GoodIn wsX6_told (wsV RX6 183 RX6 yX6_isOne wsX6_isOne) := goodIn_app (goodIn_of _ (by decide +kernel)) ggX6_told_X6_isOne
set_option maxRecDepth 20000 in
theorem ggX6_told_X6_dropsOf : GoodIn wsX6_told wsX6_dropsOf := goodIn_r _ [16, 1, 2, 3, 17, 18, 7, 19, 20, 21, 22, 23, 24, 25, 26, 27, 28, 29, 30, 31, 32, 33, 34, 35, 10, 11, 12, 36, 37, 38, 39, 40, 41, 42, 43, 44, 45, 46, 47, 48, 49, 50, 51, 52, 53, 75, 76, 77, 78, 79, 80, 81, 82, 83, 84, 85, 86, 87, 88, 89, 90, 91, 92, 93, 94, 95, 96, 97, 98, 99, 100, 101, 102, 103, 104, 105, 106, 107, 108, 109, 110, 111, 112] (by decide +kernel) (by decide +kernel)
set_option maxRecDepth 20000 in
theorem gX6_told_X6_dropsOf : GoodIn wsX6_told (wsV RX6 198 RX6 yX6_dropsOf wsX6_dropsOf) := goodIn_app (goodIn_of _ (by decide +kernel)) ggX6_told_X6_dropsOf
set_option maxRecDepth 20000 in
theorem ggX6_told_X6_waitsOf : GoodIn wsX6_told wsX6_waitsOf := goodIn_r _ [57, 2, 25, 3, 20, 21, 22, 7, 23, 24, 1, 26, 17, 18, 19, 27, 28, 29, 30, 31, 32, 33, 34, 35, 10, 11, 12, 36, 37, 38, 39, 40, 41, 42, 43, 44, 45, 46, 47, 48, 49, 50, 75, 76, 77, 78, 79, 80, 81, 82, 83, 84, 85, 86, 87, 88, 89, 90, 91, 92, 93, 94, 95, 96, 97, 98, 99, 100, 101, 102, 103, 104, 105, 106, 107, 108, 109, 110, 111, 112] (by decide +kernel) (by decide +kernel)
set_option maxRecDepth 20000 in
theorem gX6_told_X6_waitsOf : GoodIn wsX6_told (wsV RX6 201 RX6 yX6_waitsOf wsX6_waitsOf) := goodIn_app (goodIn_of _ (by decide +kernel)) ggX6_told_X6_waitsOf
set_option maxRecDepth 20000 in
theorem ggX6_told_X6_ownLinens : GoodIn wsX6_told wsX6_ownLinens := goodIn_r _ [61, 35, 75, 76, 77, 78, 79, 80, 81, 82, 83, 84, 85, 86, 87, 88, 89, 90, 91, 92, 93, 94, 95, 96, 97, 98, 99, 100, 101, 102, 103, 104, 105, 106, 107, 108, 109, 110, 111, 112] (by decide +kernel) (by decide +kernel)
set_option maxRecDepth 20000 in
theorem gX6_told_X6_ownLinens : GoodIn wsX6_told (wsV RX6 204 RX6 yX6_ownLinens wsX6_ownLinens) := goodIn_app (goodIn_of _ (by decide +kernel)) ggX6_told_X6_ownLinens
set_option maxRecDepth 20000 in
theorem ggX6_told_X6_stoopers : GoodIn wsX6_told wsX6_stoopers := goodIn_r _ [65, 66, 67, 68, 7, 69, 70, 71, 72, 73, 74, 2, 3, 20, 21, 22, 23, 24, 1, 25, 26, 17, 18, 19, 27, 28, 29, 30, 31, 32, 33, 34, 35, 10, 11, 12, 36, 37, 38, 39, 40, 41, 42, 43, 44, 45, 46, 47, 48, 49, 50, 75, 76, 77, 78, 79, 80, 81, 82, 83, 84, 85, 86, 87, 88, 89, 90, 91, 92, 93, 94, 95, 96, 97, 98, 99, 100, 101, 102, 103, 104, 105, 106, 107, 108, 109, 110, 111, 112] (by decide +kernel) (by decide +kernel)
set_option maxRecDepth 20000 in
theorem gX6_told_X6_stoopers : GoodIn wsX6_told (wsV RX6 207 RX6 yX6_stoopers wsX6_stoopers) := goodIn_app (goodIn_of _ (by decide +kernel)) ggX6_told_X6_stoopers
theorem dX6_told_0 : decode cX6_told 0 = .ok (.aload_n 0, 1) := by decide +kernel
theorem dX6_told_1 : decode cX6_told 1 = .ok (.iload_n 1, 1) := by decide +kernel
theorem dX6_told_2 : decode cX6_told 2 = .ok (.invokevirtual 183, 3) := by decide +kernel
theorem dX6_told_5 : decode cX6_told 5 = .ok (.ifCond .ne 6, 3) := by decide +kernel
theorem dX6_told_8 : decode cX6_told 8 = .ok (.bipush (-5), 2) := by decide +kernel
theorem dX6_told_10 : decode cX6_told 10 = .ok (.ireturn, 1) := by decide +kernel
theorem dX6_told_11 : decode cX6_told 11 = .ok (.iload_n 2, 1) := by decide +kernel
theorem dX6_told_12 : decode cX6_told 12 = .ok (.tableswitch 101 0 8 #[52, 52, 52, 63, 70, 77, 83, 89, 95], 52) := by decide +kernel
theorem dX6_told_64 : decode cX6_told 64 = .ok (.aload_n 0, 1) := by decide +kernel
theorem dX6_told_65 : decode cX6_told 65 = .ok (.getfield 16, 3) := by decide +kernel
theorem dX6_told_68 : decode cX6_told 68 = .ok (.iconst 3, 1) := by decide +kernel
theorem dX6_told_69 : decode cX6_told 69 = .ok (.iload_n 1, 1) := by decide +kernel
theorem dX6_told_70 : decode cX6_told 70 = .ok (.imul, 1) := by decide +kernel
theorem dX6_told_71 : decode cX6_told 71 = .ok (.iload_n 2, 1) := by decide +kernel
theorem dX6_told_72 : decode cX6_told 72 = .ok (.iadd, 1) := by decide +kernel
theorem dX6_told_73 : decode cX6_told 73 = .ok (.iaload, 1) := by decide +kernel
theorem dX6_told_74 : decode cX6_told 74 = .ok (.ireturn, 1) := by decide +kernel
theorem dX6_told_75 : decode cX6_told 75 = .ok (.aload_n 0, 1) := by decide +kernel
theorem dX6_told_76 : decode cX6_told 76 = .ok (.getfield 7, 3) := by decide +kernel
theorem dX6_told_79 : decode cX6_told 79 = .ok (.iload_n 1, 1) := by decide +kernel
theorem dX6_told_80 : decode cX6_told 80 = .ok (.iaload, 1) := by decide +kernel
theorem dX6_told_81 : decode cX6_told 81 = .ok (.ireturn, 1) := by decide +kernel
theorem dX6_told_82 : decode cX6_told 82 = .ok (.aload_n 0, 1) := by decide +kernel
theorem dX6_told_83 : decode cX6_told 83 = .ok (.getfield 13, 3) := by decide +kernel
theorem dX6_told_86 : decode cX6_told 86 = .ok (.iload_n 1, 1) := by decide +kernel
theorem dX6_told_87 : decode cX6_told 87 = .ok (.iaload, 1) := by decide +kernel
theorem dX6_told_88 : decode cX6_told 88 = .ok (.ireturn, 1) := by decide +kernel
theorem dX6_told_89 : decode cX6_told 89 = .ok (.aload_n 0, 1) := by decide +kernel
theorem dX6_told_90 : decode cX6_told 90 = .ok (.iload_n 1, 1) := by decide +kernel
theorem dX6_told_91 : decode cX6_told 91 = .ok (.invokevirtual 198, 3) := by decide +kernel
theorem dX6_told_94 : decode cX6_told 94 = .ok (.ireturn, 1) := by decide +kernel
theorem dX6_told_95 : decode cX6_told 95 = .ok (.aload_n 0, 1) := by decide +kernel
theorem dX6_told_96 : decode cX6_told 96 = .ok (.iload_n 1, 1) := by decide +kernel
theorem dX6_told_97 : decode cX6_told 97 = .ok (.invokevirtual 201, 3) := by decide +kernel
theorem dX6_told_100 : decode cX6_told 100 = .ok (.ireturn, 1) := by decide +kernel
theorem dX6_told_101 : decode cX6_told 101 = .ok (.aload_n 0, 1) := by decide +kernel
theorem dX6_told_102 : decode cX6_told 102 = .ok (.iload_n 1, 1) := by decide +kernel
theorem dX6_told_103 : decode cX6_told 103 = .ok (.invokevirtual 204, 3) := by decide +kernel
theorem dX6_told_106 : decode cX6_told 106 = .ok (.ireturn, 1) := by decide +kernel
theorem dX6_told_107 : decode cX6_told 107 = .ok (.aload_n 0, 1) := by decide +kernel
theorem dX6_told_108 : decode cX6_told 108 = .ok (.iload_n 1, 1) := by decide +kernel
theorem dX6_told_109 : decode cX6_told 109 = .ok (.invokevirtual 207, 3) := by decide +kernel
theorem dX6_told_112 : decode cX6_told 112 = .ok (.ireturn, 1) := by decide +kernel
theorem dX6_told_113 : decode cX6_told 113 = .ok (.bipush (-7), 2) := by decide +kernel
theorem dX6_told_115 : decode cX6_told 115 = .ok (.ireturn, 1) := by decide +kernel
set_option maxRecDepth 20000 in
theorem ggX6_regard_X6_isOne : GoodIn wsX6_regard wsX6_isOne := goodIn_r _ [5, 6, 7, 8, 4, 9, 56, 57, 58, 59, 60, 61, 62, 63, 64, 65, 66, 67, 68, 69, 70, 71, 72, 73, 74, 75, 76, 77, 78, 79, 80, 81, 82, 83, 84, 85, 86, 87, 88, 89, 90, 91, 92, 93] (by decide +kernel) (by decide +kernel)
set_option maxRecDepth 20000 in
theorem gX6_regard_X6_isOne : GoodIn wsX6_regard (wsV RX6 183 RX6 yX6_isOne wsX6_isOne) := goodIn_app (goodIn_of _ (by decide +kernel)) ggX6_regard_X6_isOne
set_option maxRecDepth 20000 in
theorem ggX6_regard_X6_in : GoodIn wsX6_regard wsX6_in := goodIn_r _ [9] (by decide +kernel) (by decide +kernel)
set_option maxRecDepth 20000 in
theorem gX6_regard_X6_in : GoodIn wsX6_regard (va_wsS RX6 81 yX6_in wsX6_in) := goodIn_app (goodIn_of _ (by decide +kernel)) ggX6_regard_X6_in
set_option maxRecDepth 20000 in
theorem ggX6_regard_X6_looksOf : GoodIn wsX6_regard wsX6_looksOf := goodIn_r _ [13, 14, 15, 16, 17, 18, 4, 19, 20, 21, 22, 23, 24, 25, 26, 27, 28, 29, 30, 31, 32, 33, 34, 35, 7, 8, 9, 36, 37, 38, 39, 40, 41, 42, 43, 44, 45, 46, 47, 48, 49, 50, 56, 57, 58, 59, 60, 61, 62, 63, 64, 65, 66, 67, 68, 69, 70, 71, 72, 73, 74, 75, 76, 77, 78, 79, 80, 81, 82, 83, 84, 85, 86, 87, 88, 89, 90, 91, 92, 93] (by decide +kernel) (by decide +kernel)
set_option maxRecDepth 20000 in
theorem gX6_regard_X6_looksOf : GoodIn wsX6_regard (wsV RX6 192 RX6 yX6_looksOf wsX6_looksOf) := goodIn_app (goodIn_of _ (by decide +kernel)) ggX6_regard_X6_looksOf
set_option maxRecDepth 20000 in
theorem ggX6_regard_X6_doesStoop : GoodIn wsX6_regard wsX6_doesStoop := goodIn_r _ [54, 55, 10, 11, 12, 4, 13, 14, 15, 16, 17, 18, 19, 20, 21, 22, 23, 24, 25, 26, 27, 28, 29, 30, 31, 32, 33, 34, 35, 7, 8, 9, 36, 37, 38, 39, 40, 41, 42, 43, 44, 45, 46, 47, 48, 49, 50, 56, 57, 58, 59, 60, 61, 62, 63, 64, 65, 66, 67, 68, 69, 70, 71, 72, 73, 74, 75, 76, 77, 78, 79, 80, 81, 82, 83, 84, 85, 86, 87, 88, 89, 90, 91, 92, 93] (by decide +kernel) (by decide +kernel)
set_option maxRecDepth 20000 in
theorem gX6_regard_X6_doesStoop : GoodIn wsX6_regard (wsV RX6 195 RX6 yX6_doesStoop wsX6_doesStoop) := goodIn_app (goodIn_of _ (by decide +kernel)) ggX6_regard_X6_doesStoop
theorem dX6_regard_0 : decode cX6_regard 0 = .ok (.aload_n 0, 1) := by decide +kernel
theorem dX6_regard_1 : decode cX6_regard 1 = .ok (.iload_n 1, 1) := by decide +kernel
theorem dX6_regard_2 : decode cX6_regard 2 = .ok (.invokevirtual 183, 3) := by decide +kernel
theorem dX6_regard_5 : decode cX6_regard 5 = .ok (.ifCond .eq 12, 3) := by decide +kernel
theorem dX6_regard_8 : decode cX6_regard 8 = .ok (.iload_n 2, 1) := by decide +kernel
theorem dX6_regard_9 : decode cX6_regard 9 = .ok (.iconst 0, 1) := by decide +kernel
theorem dX6_regard_10 : decode cX6_regard 10 = .ok (.iconst 5, 1) := by decide +kernel
theorem dX6_regard_11 : decode cX6_regard 11 = .ok (.invokestatic 81, 3) := by decide +kernel
theorem dX6_regard_14 : decode cX6_regard 14 = .ok (.ifCond .ne 6, 3) := by decide +kernel
theorem dX6_regard_17 : decode cX6_regard 17 = .ok (.bipush (-5), 2) := by decide +kernel
theorem dX6_regard_19 : decode cX6_regard 19 = .ok (.ireturn, 1) := by decide +kernel
theorem dX6_regard_20 : decode cX6_regard 20 = .ok (.iload_n 3, 1) := by decide +kernel
theorem dX6_regard_21 : decode cX6_regard 21 = .ok (.iconst 0, 1) := by decide +kernel
theorem dX6_regard_22 : decode cX6_regard 22 = .ok (.iconst 1, 1) := by decide +kernel
theorem dX6_regard_23 : decode cX6_regard 23 = .ok (.invokestatic 81, 3) := by decide +kernel
theorem dX6_regard_26 : decode cX6_regard 26 = .ok (.ifCond .ne 6, 3) := by decide +kernel
theorem dX6_regard_29 : decode cX6_regard 29 = .ok (.bipush (-7), 2) := by decide +kernel
theorem dX6_regard_31 : decode cX6_regard 31 = .ok (.ireturn, 1) := by decide +kernel
theorem dX6_regard_32 : decode cX6_regard 32 = .ok (.iload_n 3, 1) := by decide +kernel
theorem dX6_regard_33 : decode cX6_regard 33 = .ok (.ifCond .ne 12, 3) := by decide +kernel
theorem dX6_regard_36 : decode cX6_regard 36 = .ok (.aload_n 0, 1) := by decide +kernel
theorem dX6_regard_37 : decode cX6_regard 37 = .ok (.iload_n 1, 1) := by decide +kernel
theorem dX6_regard_38 : decode cX6_regard 38 = .ok (.iload_n 2, 1) := by decide +kernel
theorem dX6_regard_39 : decode cX6_regard 39 = .ok (.invokevirtual 192, 3) := by decide +kernel
theorem dX6_regard_42 : decode cX6_regard 42 = .ok (.goto 17, 3) := by decide +kernel
theorem dX6_regard_45 : decode cX6_regard 45 = .ok (.aload_n 0, 1) := by decide +kernel
theorem dX6_regard_46 : decode cX6_regard 46 = .ok (.iload_n 2, 1) := by decide +kernel
theorem dX6_regard_47 : decode cX6_regard 47 = .ok (.iload_n 1, 1) := by decide +kernel
theorem dX6_regard_48 : decode cX6_regard 48 = .ok (.invokevirtual 195, 3) := by decide +kernel
theorem dX6_regard_51 : decode cX6_regard 51 = .ok (.ifCond .eq 7, 3) := by decide +kernel
theorem dX6_regard_54 : decode cX6_regard 54 = .ok (.iconst 1, 1) := by decide +kernel
theorem dX6_regard_55 : decode cX6_regard 55 = .ok (.goto 4, 3) := by decide +kernel
theorem dX6_regard_58 : decode cX6_regard 58 = .ok (.iconst 0, 1) := by decide +kernel
theorem dX6_regard_59 : decode cX6_regard 59 = .ok (.ireturn, 1) := by decide +kernel
set_option maxRecDepth 20000 in
theorem ggX6_linen_X6_isLinen : GoodIn wsX6_linen wsX6_isLinen := goodIn_r _ [6, 1, 7, 8, 5, 9, 10, 11, 12, 13, 14, 15, 16, 17, 18, 19, 20, 21, 22, 23, 24, 25, 26, 27, 28, 29, 30, 31, 32, 33, 34, 35, 36, 37, 38, 39, 40, 41, 42, 43, 44, 45, 46, 47, 48, 49, 50] (by decide +kernel) (by decide +kernel)
set_option maxRecDepth 20000 in
theorem gX6_linen_X6_isLinen : GoodIn wsX6_linen (wsV RX6 89 RX6 yX6_isLinen wsX6_isLinen) := goodIn_app (goodIn_of _ (by decide +kernel)) ggX6_linen_X6_isLinen
set_option maxRecDepth 20000 in
theorem ggX6_linen_X6_in : GoodIn wsX6_linen wsX6_in := goodIn_r _ [9] (by decide +kernel) (by decide +kernel)
set_option maxRecDepth 20000 in
theorem gX6_linen_X6_in : GoodIn wsX6_linen (va_wsS RX6 81 yX6_in wsX6_in) := goodIn_app (goodIn_of _ (by decide +kernel)) ggX6_linen_X6_in
theorem dX6_linen_0 : decode cX6_linen 0 = .ok (.aload_n 0, 1) := by decide +kernel
theorem dX6_linen_1 : decode cX6_linen 1 = .ok (.iload_n 1, 1) := by decide +kernel
theorem dX6_linen_2 : decode cX6_linen 2 = .ok (.invokevirtual 89, 3) := by decide +kernel
theorem dX6_linen_5 : decode cX6_linen 5 = .ok (.ifCond .ne 6, 3) := by decide +kernel
theorem dX6_linen_8 : decode cX6_linen 8 = .ok (.bipush (-6), 2) := by decide +kernel
theorem dX6_linen_10 : decode cX6_linen 10 = .ok (.ireturn, 1) := by decide +kernel
theorem dX6_linen_11 : decode cX6_linen 11 = .ok (.iload_n 2, 1) := by decide +kernel
theorem dX6_linen_12 : decode cX6_linen 12 = .ok (.iconst 0, 1) := by decide +kernel
theorem dX6_linen_13 : decode cX6_linen 13 = .ok (.iconst 2, 1) := by decide +kernel
theorem dX6_linen_14 : decode cX6_linen 14 = .ok (.invokestatic 81, 3) := by decide +kernel
theorem dX6_linen_17 : decode cX6_linen 17 = .ok (.ifCond .eq 16, 3) := by decide +kernel
theorem dX6_linen_20 : decode cX6_linen 20 = .ok (.aload_n 0, 1) := by decide +kernel
theorem dX6_linen_21 : decode cX6_linen 21 = .ok (.getfield 19, 3) := by decide +kernel
theorem dX6_linen_24 : decode cX6_linen 24 = .ok (.iconst 3, 1) := by decide +kernel
theorem dX6_linen_25 : decode cX6_linen 25 = .ok (.iload_n 1, 1) := by decide +kernel
theorem dX6_linen_26 : decode cX6_linen 26 = .ok (.imul, 1) := by decide +kernel
theorem dX6_linen_27 : decode cX6_linen 27 = .ok (.iload_n 2, 1) := by decide +kernel
theorem dX6_linen_28 : decode cX6_linen 28 = .ok (.iadd, 1) := by decide +kernel
theorem dX6_linen_29 : decode cX6_linen 29 = .ok (.iaload, 1) := by decide +kernel
theorem dX6_linen_30 : decode cX6_linen 30 = .ok (.goto 5, 3) := by decide +kernel
theorem dX6_linen_33 : decode cX6_linen 33 = .ok (.bipush (-7), 2) := by decide +kernel
theorem dX6_linen_35 : decode cX6_linen 35 = .ok (.ireturn, 1) := by decide +kernel
set_option maxRecDepth 20000 in
theorem ggX6_can_X6_lying : GoodIn wsX6_can wsX6_lying := goodIn_r _ [6, 7, 8, 9, 5, 10, 11, 12, 13, 14, 15, 16, 17, 18, 19, 20, 21, 22, 23, 24, 25, 26, 27, 28, 29, 30, 31, 32, 33, 34, 35, 36, 37, 38, 39, 40, 41, 42, 43, 44, 45, 46, 47, 48, 49, 50, 51, 52, 53, 54, 55] (by decide +kernel) (by decide +kernel)
set_option maxRecDepth 20000 in
theorem gX6_can_X6_lying : GoodIn wsX6_can (wsV RX6 96 RX6 yX6_lying wsX6_lying) := goodIn_app (goodIn_of _ (by decide +kernel)) ggX6_can_X6_lying
theorem dX6_can_0 : decode cX6_can 0 = .ok (.aload_n 0, 1) := by decide +kernel
theorem dX6_can_1 : decode cX6_can 1 = .ok (.getfield 16, 3) := by decide +kernel
theorem dX6_can_4 : decode cX6_can 4 = .ok (.iconst 3, 1) := by decide +kernel
theorem dX6_can_5 : decode cX6_can 5 = .ok (.iload_n 1, 1) := by decide +kernel
theorem dX6_can_6 : decode cX6_can 6 = .ok (.imul, 1) := by decide +kernel
theorem dX6_can_7 : decode cX6_can 7 = .ok (.iaload, 1) := by decide +kernel
theorem dX6_can_8 : decode cX6_can 8 = .ok (.ifCond .eq 16, 3) := by decide +kernel
theorem dX6_can_11 : decode cX6_can 11 = .ok (.aload_n 0, 1) := by decide +kernel
theorem dX6_can_12 : decode cX6_can 12 = .ok (.invokevirtual 96, 3) := by decide +kernel
theorem dX6_can_15 : decode cX6_can 15 = .ok (.bipush 8, 2) := by decide +kernel
theorem dX6_can_17 : decode cX6_can 17 = .ok (.if_icmp .ge 7, 3) := by decide +kernel
theorem dX6_can_20 : decode cX6_can 20 = .ok (.iconst 1, 1) := by decide +kernel
theorem dX6_can_21 : decode cX6_can 21 = .ok (.goto 4, 3) := by decide +kernel
theorem dX6_can_24 : decode cX6_can 24 = .ok (.iconst 0, 1) := by decide +kernel
theorem dX6_can_25 : decode cX6_can 25 = .ok (.ireturn, 1) := by decide +kernel
set_option maxRecDepth 20000 in
theorem ggX6_dropOf_X6_dropsOf : GoodIn wsX6_dropOf wsX6_dropsOf := goodIn_r _ [6, 7, 8, 9, 10, 11, 5, 12, 13, 14, 15, 16, 17, 18, 19, 20, 21, 22, 23, 24, 25, 26, 27, 1, 28, 29, 30, 31, 32, 33, 34, 35, 36, 37, 38, 39, 40, 41, 42, 43, 44, 45, 46, 47, 48, 53, 54, 55, 56, 57, 58, 59, 60, 61, 62, 63, 64, 65, 66, 67, 68, 69, 70, 71, 72, 73, 74, 75, 76, 77, 78, 79, 80, 81, 82, 83, 84, 85, 86, 87, 88, 89, 90] (by decide +kernel) (by decide +kernel)
set_option maxRecDepth 20000 in
theorem gX6_dropOf_X6_dropsOf : GoodIn wsX6_dropOf (wsV RX6 198 RX6 yX6_dropsOf wsX6_dropsOf) := goodIn_app (goodIn_of _ (by decide +kernel)) ggX6_dropOf_X6_dropsOf
set_option maxRecDepth 20000 in
theorem ggX6_dropOf_X6_waitsOf : GoodIn wsX6_dropOf wsX6_waitsOf := goodIn_r _ [52, 8, 18, 9, 13, 14, 15, 5, 16, 17, 7, 19, 10, 11, 12, 20, 21, 22, 23, 24, 25, 26, 27, 1, 28, 29, 30, 31, 32, 33, 34, 35, 36, 37, 38, 39, 40, 41, 42, 43, 44, 45, 53, 54, 55, 56, 57, 58, 59, 60, 61, 62, 63, 64, 65, 66, 67, 68, 69, 70, 71, 72, 73, 74, 75, 76, 77, 78, 79, 80, 81, 82, 83, 84, 85, 86, 87, 88, 89, 90] (by decide +kernel) (by decide +kernel)
set_option maxRecDepth 20000 in
theorem gX6_dropOf_X6_waitsOf : GoodIn wsX6_dropOf (wsV RX6 201 RX6 yX6_waitsOf wsX6_waitsOf) := goodIn_app (goodIn_of _ (by decide +kernel)) ggX6_dropOf_X6_waitsOf
set_option maxRecDepth 20000 in
theorem ggX6_dropOf_X6_isLinen : GoodIn wsX6_dropOf wsX6_isLinen := goodIn_r _ [27, 1, 28, 29, 5, 30, 31, 32, 33, 53, 54, 55, 56, 57, 58, 59, 60, 61, 62, 63, 64, 65, 66, 67, 68, 69, 70, 71, 72, 73, 74, 75, 76, 77, 78, 79, 80, 81, 82, 83, 84, 85, 86, 87, 88, 89, 90] (by decide +kernel) (by decide +kernel)
set_option maxRecDepth 20000 in
theorem gX6_dropOf_X6_isLinen : GoodIn wsX6_dropOf (wsV RX6 89 RX6 yX6_isLinen wsX6_isLinen) := goodIn_app (goodIn_of _ (by decide +kernel)) ggX6_dropOf_X6_isLinen
theorem dX6_dropOf_0 : decode cX6_dropOf 0 = .ok (.aload_n 0, 1) := by decide +kernel
theorem dX6_dropOf_1 : decode cX6_dropOf 1 = .ok (.iload_n 1, 1) := by decide +kernel
theorem dX6_dropOf_2 : decode cX6_dropOf 2 = .ok (.invokevirtual 198, 3) := by decide +kernel
theorem dX6_dropOf_5 : decode cX6_dropOf 5 = .ok (.istore_n 2, 1) := by decide +kernel
theorem dX6_dropOf_6 : decode cX6_dropOf 6 = .ok (.aload_n 0, 1) := by decide +kernel
theorem dX6_dropOf_7 : decode cX6_dropOf 7 = .ok (.iload_n 1, 1) := by decide +kernel
theorem dX6_dropOf_8 : decode cX6_dropOf 8 = .ok (.invokevirtual 201, 3) := by decide +kernel
theorem dX6_dropOf_11 : decode cX6_dropOf 11 = .ok (.istore_n 3, 1) := by decide +kernel
theorem dX6_dropOf_12 : decode cX6_dropOf 12 = .ok (.iconst 0, 1) := by decide +kernel
theorem dX6_dropOf_13 : decode cX6_dropOf 13 = .ok (.istore 4, 2) := by decide +kernel
theorem dX6_dropOf_15 : decode cX6_dropOf 15 = .ok (.iload 4, 2) := by decide +kernel
theorem dX6_dropOf_17 : decode cX6_dropOf 17 = .ok (.bipush 7, 2) := by decide +kernel
theorem dX6_dropOf_19 : decode cX6_dropOf 19 = .ok (.if_icmp .ge 18, 3) := by decide +kernel
theorem dX6_dropOf_22 : decode cX6_dropOf 22 = .ok (.aload_n 0, 1) := by decide +kernel
theorem dX6_dropOf_23 : decode cX6_dropOf 23 = .ok (.iload 4, 2) := by decide +kernel
theorem dX6_dropOf_25 : decode cX6_dropOf 25 = .ok (.invokevirtual 89, 3) := by decide +kernel
theorem dX6_dropOf_28 : decode cX6_dropOf 28 = .ok (.ifCond .eq 9, 3) := by decide +kernel
theorem dX6_dropOf_31 : decode cX6_dropOf 31 = .ok (.iinc 4 1, 3) := by decide +kernel
theorem dX6_dropOf_34 : decode cX6_dropOf 34 = .ok (.goto (-19), 3) := by decide +kernel
theorem dX6_dropOf_37 : decode cX6_dropOf 37 = .ok (.aload_n 0, 1) := by decide +kernel
theorem dX6_dropOf_38 : decode cX6_dropOf 38 = .ok (.getfield 19, 3) := by decide +kernel
theorem dX6_dropOf_41 : decode cX6_dropOf 41 = .ok (.iconst 3, 1) := by decide +kernel
theorem dX6_dropOf_42 : decode cX6_dropOf 42 = .ok (.iload 4, 2) := by decide +kernel
theorem dX6_dropOf_44 : decode cX6_dropOf 44 = .ok (.imul, 1) := by decide +kernel
theorem dX6_dropOf_45 : decode cX6_dropOf 45 = .ok (.iload_n 1, 1) := by decide +kernel
theorem dX6_dropOf_46 : decode cX6_dropOf 46 = .ok (.iastore, 1) := by decide +kernel
theorem dX6_dropOf_47 : decode cX6_dropOf 47 = .ok (.aload_n 0, 1) := by decide +kernel
theorem dX6_dropOf_48 : decode cX6_dropOf 48 = .ok (.getfield 19, 3) := by decide +kernel
theorem dX6_dropOf_51 : decode cX6_dropOf 51 = .ok (.iconst 3, 1) := by decide +kernel
theorem dX6_dropOf_52 : decode cX6_dropOf 52 = .ok (.iload 4, 2) := by decide +kernel
theorem dX6_dropOf_54 : decode cX6_dropOf 54 = .ok (.imul, 1) := by decide +kernel
theorem dX6_dropOf_55 : decode cX6_dropOf 55 = .ok (.iconst 1, 1) := by decide +kernel
theorem dX6_dropOf_56 : decode cX6_dropOf 56 = .ok (.iadd, 1) := by decide +kernel
theorem dX6_dropOf_57 : decode cX6_dropOf 57 = .ok (.iload_n 2, 1) := by decide +kernel
theorem dX6_dropOf_58 : decode cX6_dropOf 58 = .ok (.iastore, 1) := by decide +kernel
theorem dX6_dropOf_59 : decode cX6_dropOf 59 = .ok (.aload_n 0, 1) := by decide +kernel
theorem dX6_dropOf_60 : decode cX6_dropOf 60 = .ok (.getfield 19, 3) := by decide +kernel
theorem dX6_dropOf_63 : decode cX6_dropOf 63 = .ok (.iconst 3, 1) := by decide +kernel
theorem dX6_dropOf_64 : decode cX6_dropOf 64 = .ok (.iload 4, 2) := by decide +kernel
theorem dX6_dropOf_66 : decode cX6_dropOf 66 = .ok (.imul, 1) := by decide +kernel
theorem dX6_dropOf_67 : decode cX6_dropOf 67 = .ok (.iconst 2, 1) := by decide +kernel
theorem dX6_dropOf_68 : decode cX6_dropOf 68 = .ok (.iadd, 1) := by decide +kernel
theorem dX6_dropOf_69 : decode cX6_dropOf 69 = .ok (.iload_n 3, 1) := by decide +kernel
theorem dX6_dropOf_70 : decode cX6_dropOf 70 = .ok (.iastore, 1) := by decide +kernel
theorem dX6_dropOf_71 : decode cX6_dropOf 71 = .ok (.iload 4, 2) := by decide +kernel
theorem dX6_dropOf_73 : decode cX6_dropOf 73 = .ok (.ireturn, 1) := by decide +kernel
set_option maxRecDepth 20000 in
theorem ggX6_drop_X6_isOne : GoodIn wsX6_drop wsX6_isOne := goodIn_r _ [6, 7, 8, 9, 5, 10, 62, 63, 64, 65, 66, 67, 68, 69, 70, 71, 72, 73, 74, 75, 76, 77, 78, 79, 80, 81, 82, 83, 84, 85, 86, 87, 88, 89, 90, 91, 92, 93, 94, 95, 96, 97, 98, 99] (by decide +kernel) (by decide +kernel)
set_option maxRecDepth 20000 in
theorem gX6_drop_X6_isOne : GoodIn wsX6_drop (wsV RX6 183 RX6 yX6_isOne wsX6_isOne) := goodIn_app (goodIn_of _ (by decide +kernel)) ggX6_drop_X6_isOne
set_option maxRecDepth 20000 in
theorem ggX6_drop_X6_lying : GoodIn wsX6_drop wsX6_lying := goodIn_r _ [14, 15, 16, 17, 5, 18, 19, 8, 9, 10, 20, 21, 22, 62, 63, 64, 65, 66, 67, 68, 69, 70, 71, 72, 73, 74, 75, 76, 77, 78, 79, 80, 81, 82, 83, 84, 85, 86, 87, 88, 89, 90, 91, 92, 93, 94, 95, 96, 97, 98, 99] (by decide +kernel) (by decide +kernel)
set_option maxRecDepth 20000 in
theorem gX6_drop_X6_lying : GoodIn wsX6_drop (wsV RX6 96 RX6 yX6_lying wsX6_lying) := goodIn_app (goodIn_of _ (by decide +kernel)) ggX6_drop_X6_lying
set_option maxRecDepth 20000 in
theorem ggX6_drop_X6_dropOf : GoodIn wsX6_drop wsX6_dropOf := goodIn_r _ [26, 19, 27, 28, 29, 5, 30, 1, 31, 32, 33, 34, 35, 36, 37, 38, 39, 40, 41, 42, 11, 12, 13, 14, 15, 16, 17, 18, 8, 9, 10, 20, 21, 22, 43, 44, 45, 46, 47, 48, 49, 50, 51, 52, 53, 54, 55, 56, 57, 58, 59, 60, 61, 62, 63, 64, 65, 66, 67, 68, 69, 70, 71, 72, 73, 74, 75, 76, 77, 78, 79, 80, 81, 82, 83, 84, 85, 86, 87, 88, 89, 90, 91, 92, 93, 94, 95, 96, 97, 98, 99] (by decide +kernel) (by decide +kernel)
set_option maxRecDepth 20000 in
theorem gX6_drop_X6_dropOf : GoodIn wsX6_drop (wsV RX6 210 RX6 yX6_dropOf wsX6_dropOf) := goodIn_app (goodIn_of _ (by decide +kernel)) ggX6_drop_X6_dropOf
theorem dX6_drop_0 : decode cX6_drop 0 = .ok (.aload_n 0, 1) := by decide +kernel
theorem dX6_drop_1 : decode cX6_drop 1 = .ok (.iload_n 1, 1) := by decide +kernel
theorem dX6_drop_2 : decode cX6_drop 2 = .ok (.invokevirtual 183, 3) := by decide +kernel
theorem dX6_drop_5 : decode cX6_drop 5 = .ok (.ifCond .ne 6, 3) := by decide +kernel
theorem dX6_drop_8 : decode cX6_drop 8 = .ok (.bipush (-5), 2) := by decide +kernel
theorem dX6_drop_10 : decode cX6_drop 10 = .ok (.ireturn, 1) := by decide +kernel
theorem dX6_drop_11 : decode cX6_drop 11 = .ok (.aload_n 0, 1) := by decide +kernel
theorem dX6_drop_12 : decode cX6_drop 12 = .ok (.getfield 16, 3) := by decide +kernel
theorem dX6_drop_15 : decode cX6_drop 15 = .ok (.iconst 3, 1) := by decide +kernel
theorem dX6_drop_16 : decode cX6_drop 16 = .ok (.iload_n 1, 1) := by decide +kernel
theorem dX6_drop_17 : decode cX6_drop 17 = .ok (.imul, 1) := by decide +kernel
theorem dX6_drop_18 : decode cX6_drop 18 = .ok (.iaload, 1) := by decide +kernel
theorem dX6_drop_19 : decode cX6_drop 19 = .ok (.ifCond .ne 5, 3) := by decide +kernel
theorem dX6_drop_22 : decode cX6_drop 22 = .ok (.iconst (-1), 1) := by decide +kernel
theorem dX6_drop_23 : decode cX6_drop 23 = .ok (.ireturn, 1) := by decide +kernel
theorem dX6_drop_24 : decode cX6_drop 24 = .ok (.aload_n 0, 1) := by decide +kernel
theorem dX6_drop_25 : decode cX6_drop 25 = .ok (.invokevirtual 96, 3) := by decide +kernel
theorem dX6_drop_28 : decode cX6_drop 28 = .ok (.bipush 8, 2) := by decide +kernel
theorem dX6_drop_30 : decode cX6_drop 30 = .ok (.if_icmp .ne 8, 3) := by decide +kernel
theorem dX6_drop_33 : decode cX6_drop 33 = .ok (.bipush (-4), 2) := by decide +kernel
theorem dX6_drop_35 : decode cX6_drop 35 = .ok (.goto 8, 3) := by decide +kernel
theorem dX6_drop_38 : decode cX6_drop 38 = .ok (.aload_n 0, 1) := by decide +kernel
theorem dX6_drop_39 : decode cX6_drop 39 = .ok (.iload_n 1, 1) := by decide +kernel
theorem dX6_drop_40 : decode cX6_drop 40 = .ok (.invokevirtual 210, 3) := by decide +kernel
theorem dX6_drop_43 : decode cX6_drop 43 = .ok (.ireturn, 1) := by decide +kernel
set_option maxRecDepth 20000 in
theorem ggX6_hourOf_X6_isLinen : GoodIn wsX6_hourOf wsX6_isLinen := goodIn_r _ [9, 2, 10, 11, 8, 12, 13, 14, 15, 51, 52, 53, 54, 55, 56, 57, 58, 59, 60, 61, 62, 63, 64, 65, 66, 67, 68, 69, 70, 71, 72, 73, 74, 75, 76, 77, 78, 79, 80, 81, 82, 83, 84, 85, 86, 87, 88] (by decide +kernel) (by decide +kernel)
set_option maxRecDepth 20000 in
theorem gX6_hourOf_X6_isLinen : GoodIn wsX6_hourOf (wsV RX6 89 RX6 yX6_isLinen wsX6_isLinen) := goodIn_app (goodIn_of _ (by decide +kernel)) ggX6_hourOf_X6_isLinen
set_option maxRecDepth 20000 in
theorem ggX6_hourOf_X6_within : GoodIn wsX6_hourOf wsX6_within := goodIn_r _ [15] (by decide +kernel) (by decide +kernel)
set_option maxRecDepth 20000 in
theorem gX6_hourOf_X6_within : GoodIn wsX6_hourOf (va_wsS RX6 85 yX6_within wsX6_within) := goodIn_app (goodIn_of _ (by decide +kernel)) ggX6_hourOf_X6_within
set_option maxRecDepth 20000 in
theorem ggX6_hourOf_X6_doesStoop : GoodIn wsX6_hourOf wsX6_doesStoop := goodIn_r _ [19, 20, 21, 22, 23, 8, 24, 25, 26, 27, 28, 29, 30, 31, 4, 1, 3, 32, 33, 34, 35, 36, 37, 38, 5, 6, 7, 9, 2, 10, 11, 12, 13, 14, 15, 39, 40, 41, 42, 43, 44, 45, 46, 47, 48, 49, 50, 51, 52, 53, 54, 55, 56, 57, 58, 59, 60, 61, 62, 63, 64, 65, 66, 67, 68, 69, 70, 71, 72, 73, 74, 75, 76, 77, 78, 79, 80, 81, 82, 83, 84, 85, 86, 87, 88] (by decide +kernel) (by decide +kernel)
set_option maxRecDepth 20000 in
theorem gX6_hourOf_X6_doesStoop : GoodIn wsX6_hourOf (wsV RX6 195 RX6 yX6_doesStoop wsX6_doesStoop) := goodIn_app (goodIn_of _ (by decide +kernel)) ggX6_hourOf_X6_doesStoop
theorem dX6_hourOf_0 : decode cX6_hourOf 0 = .ok (.iconst 0, 1) := by decide +kernel
theorem dX6_hourOf_1 : decode cX6_hourOf 1 = .ok (.istore_n 1, 1) := by decide +kernel
theorem dX6_hourOf_2 : decode cX6_hourOf 2 = .ok (.aload_n 0, 1) := by decide +kernel
theorem dX6_hourOf_3 : decode cX6_hourOf 3 = .ok (.getfield 93, 3) := by decide +kernel
theorem dX6_hourOf_6 : decode cX6_hourOf 6 = .ok (.bipush 6, 2) := by decide +kernel
theorem dX6_hourOf_8 : decode cX6_hourOf 8 = .ok (.irem, 1) := by decide +kernel
theorem dX6_hourOf_9 : decode cX6_hourOf 9 = .ok (.istore_n 2, 1) := by decide +kernel
theorem dX6_hourOf_10 : decode cX6_hourOf 10 = .ok (.iconst 0, 1) := by decide +kernel
theorem dX6_hourOf_11 : decode cX6_hourOf 11 = .ok (.istore_n 3, 1) := by decide +kernel
theorem dX6_hourOf_12 : decode cX6_hourOf 12 = .ok (.iload_n 3, 1) := by decide +kernel
theorem dX6_hourOf_13 : decode cX6_hourOf 13 = .ok (.bipush 8, 2) := by decide +kernel
theorem dX6_hourOf_15 : decode cX6_hourOf 15 = .ok (.if_icmp .ge 156, 3) := by decide +kernel
theorem dX6_hourOf_18 : decode cX6_hourOf 18 = .ok (.aload_n 0, 1) := by decide +kernel
theorem dX6_hourOf_19 : decode cX6_hourOf 19 = .ok (.iload_n 3, 1) := by decide +kernel
theorem dX6_hourOf_20 : decode cX6_hourOf 20 = .ok (.invokevirtual 89, 3) := by decide +kernel
theorem dX6_hourOf_23 : decode cX6_hourOf 23 = .ok (.ifCond .eq 142, 3) := by decide +kernel
theorem dX6_hourOf_26 : decode cX6_hourOf 26 = .ok (.aload_n 0, 1) := by decide +kernel
theorem dX6_hourOf_27 : decode cX6_hourOf 27 = .ok (.getfield 19, 3) := by decide +kernel
theorem dX6_hourOf_30 : decode cX6_hourOf 30 = .ok (.iconst 3, 1) := by decide +kernel
theorem dX6_hourOf_31 : decode cX6_hourOf 31 = .ok (.iload_n 3, 1) := by decide +kernel
theorem dX6_hourOf_32 : decode cX6_hourOf 32 = .ok (.imul, 1) := by decide +kernel
theorem dX6_hourOf_33 : decode cX6_hourOf 33 = .ok (.iaload, 1) := by decide +kernel
theorem dX6_hourOf_34 : decode cX6_hourOf 34 = .ok (.iconst 0, 1) := by decide +kernel
theorem dX6_hourOf_35 : decode cX6_hourOf 35 = .ok (.iconst 5, 1) := by decide +kernel
theorem dX6_hourOf_36 : decode cX6_hourOf 36 = .ok (.invokestatic 85, 3) := by decide +kernel
theorem dX6_hourOf_39 : decode cX6_hourOf 39 = .ok (.istore 4, 2) := by decide +kernel
theorem dX6_hourOf_41 : decode cX6_hourOf 41 = .ok (.aload_n 0, 1) := by decide +kernel
theorem dX6_hourOf_42 : decode cX6_hourOf 42 = .ok (.iload_n 2, 1) := by decide +kernel
theorem dX6_hourOf_43 : decode cX6_hourOf 43 = .ok (.iload 4, 2) := by decide +kernel
theorem dX6_hourOf_45 : decode cX6_hourOf 45 = .ok (.invokevirtual 195, 3) := by decide +kernel
theorem dX6_hourOf_48 : decode cX6_hourOf 48 = .ok (.ifCond .eq 51, 3) := by decide +kernel
theorem dX6_hourOf_51 : decode cX6_hourOf 51 = .ok (.iload_n 1, 1) := by decide +kernel
theorem dX6_hourOf_52 : decode cX6_hourOf 52 = .ok (.iconst 1, 1) := by decide +kernel
theorem dX6_hourOf_53 : decode cX6_hourOf 53 = .ok (.aload_n 0, 1) := by decide +kernel
theorem dX6_hourOf_54 : decode cX6_hourOf 54 = .ok (.getfield 19, 3) := by decide +kernel
theorem dX6_hourOf_57 : decode cX6_hourOf 57 = .ok (.iconst 3, 1) := by decide +kernel
theorem dX6_hourOf_58 : decode cX6_hourOf 58 = .ok (.iload_n 3, 1) := by decide +kernel
theorem dX6_hourOf_59 : decode cX6_hourOf 59 = .ok (.imul, 1) := by decide +kernel
theorem dX6_hourOf_60 : decode cX6_hourOf 60 = .ok (.iconst 1, 1) := by decide +kernel
theorem dX6_hourOf_61 : decode cX6_hourOf 61 = .ok (.iadd, 1) := by decide +kernel
theorem dX6_hourOf_62 : decode cX6_hourOf 62 = .ok (.iaload, 1) := by decide +kernel
theorem dX6_hourOf_63 : decode cX6_hourOf 63 = .ok (.ishl, 1) := by decide +kernel
theorem dX6_hourOf_64 : decode cX6_hourOf 64 = .ok (.ior, 1) := by decide +kernel
theorem dX6_hourOf_65 : decode cX6_hourOf 65 = .ok (.istore_n 1, 1) := by decide +kernel
theorem dX6_hourOf_66 : decode cX6_hourOf 66 = .ok (.aload_n 0, 1) := by decide +kernel
theorem dX6_hourOf_67 : decode cX6_hourOf 67 = .ok (.dup, 1) := by decide +kernel
theorem dX6_hourOf_68 : decode cX6_hourOf 68 = .ok (.getfield 109, 3) := by decide +kernel
theorem dX6_hourOf_71 : decode cX6_hourOf 71 = .ok (.iconst 1, 1) := by decide +kernel
theorem dX6_hourOf_72 : decode cX6_hourOf 72 = .ok (.aload_n 0, 1) := by decide +kernel
theorem dX6_hourOf_73 : decode cX6_hourOf 73 = .ok (.getfield 19, 3) := by decide +kernel
theorem dX6_hourOf_76 : decode cX6_hourOf 76 = .ok (.iconst 3, 1) := by decide +kernel
theorem dX6_hourOf_77 : decode cX6_hourOf 77 = .ok (.iload_n 3, 1) := by decide +kernel
theorem dX6_hourOf_78 : decode cX6_hourOf 78 = .ok (.imul, 1) := by decide +kernel
theorem dX6_hourOf_79 : decode cX6_hourOf 79 = .ok (.iconst 1, 1) := by decide +kernel
theorem dX6_hourOf_80 : decode cX6_hourOf 80 = .ok (.iadd, 1) := by decide +kernel
theorem dX6_hourOf_81 : decode cX6_hourOf 81 = .ok (.iaload, 1) := by decide +kernel
theorem dX6_hourOf_82 : decode cX6_hourOf 82 = .ok (.ishl, 1) := by decide +kernel
theorem dX6_hourOf_83 : decode cX6_hourOf 83 = .ok (.ior, 1) := by decide +kernel
theorem dX6_hourOf_84 : decode cX6_hourOf 84 = .ok (.putfield 109, 3) := by decide +kernel
theorem dX6_hourOf_87 : decode cX6_hourOf 87 = .ok (.aload_n 0, 1) := by decide +kernel
theorem dX6_hourOf_88 : decode cX6_hourOf 88 = .ok (.getfield 19, 3) := by decide +kernel
theorem dX6_hourOf_91 : decode cX6_hourOf 91 = .ok (.iconst 3, 1) := by decide +kernel
theorem dX6_hourOf_92 : decode cX6_hourOf 92 = .ok (.iload_n 3, 1) := by decide +kernel
theorem dX6_hourOf_93 : decode cX6_hourOf 93 = .ok (.imul, 1) := by decide +kernel
theorem dX6_hourOf_94 : decode cX6_hourOf 94 = .ok (.iconst (-1), 1) := by decide +kernel
theorem dX6_hourOf_95 : decode cX6_hourOf 95 = .ok (.iastore, 1) := by decide +kernel
theorem dX6_hourOf_96 : decode cX6_hourOf 96 = .ok (.goto 69, 3) := by decide +kernel
theorem dX6_hourOf_99 : decode cX6_hourOf 99 = .ok (.aload_n 0, 1) := by decide +kernel
theorem dX6_hourOf_100 : decode cX6_hourOf 100 = .ok (.getfield 19, 3) := by decide +kernel
theorem dX6_hourOf_103 : decode cX6_hourOf 103 = .ok (.iconst 3, 1) := by decide +kernel
theorem dX6_hourOf_104 : decode cX6_hourOf 104 = .ok (.iload_n 3, 1) := by decide +kernel
theorem dX6_hourOf_105 : decode cX6_hourOf 105 = .ok (.imul, 1) := by decide +kernel
theorem dX6_hourOf_106 : decode cX6_hourOf 106 = .ok (.iconst 2, 1) := by decide +kernel
theorem dX6_hourOf_107 : decode cX6_hourOf 107 = .ok (.iadd, 1) := by decide +kernel
theorem dX6_hourOf_108 : decode cX6_hourOf 108 = .ok (.dup2, 1) := by decide +kernel
theorem dX6_hourOf_109 : decode cX6_hourOf 109 = .ok (.iaload, 1) := by decide +kernel
theorem dX6_hourOf_110 : decode cX6_hourOf 110 = .ok (.iconst 1, 1) := by decide +kernel
theorem dX6_hourOf_111 : decode cX6_hourOf 111 = .ok (.isub, 1) := by decide +kernel
theorem dX6_hourOf_112 : decode cX6_hourOf 112 = .ok (.iastore, 1) := by decide +kernel
theorem dX6_hourOf_113 : decode cX6_hourOf 113 = .ok (.aload_n 0, 1) := by decide +kernel
theorem dX6_hourOf_114 : decode cX6_hourOf 114 = .ok (.getfield 19, 3) := by decide +kernel
theorem dX6_hourOf_117 : decode cX6_hourOf 117 = .ok (.iconst 3, 1) := by decide +kernel
theorem dX6_hourOf_118 : decode cX6_hourOf 118 = .ok (.iload_n 3, 1) := by decide +kernel
theorem dX6_hourOf_119 : decode cX6_hourOf 119 = .ok (.imul, 1) := by decide +kernel
theorem dX6_hourOf_120 : decode cX6_hourOf 120 = .ok (.iconst 2, 1) := by decide +kernel
theorem dX6_hourOf_121 : decode cX6_hourOf 121 = .ok (.iadd, 1) := by decide +kernel
theorem dX6_hourOf_122 : decode cX6_hourOf 122 = .ok (.iaload, 1) := by decide +kernel
theorem dX6_hourOf_123 : decode cX6_hourOf 123 = .ok (.ifCond .ne 42, 3) := by decide +kernel
theorem dX6_hourOf_126 : decode cX6_hourOf 126 = .ok (.aload_n 0, 1) := by decide +kernel
theorem dX6_hourOf_127 : decode cX6_hourOf 127 = .ok (.getfield 19, 3) := by decide +kernel
theorem dX6_hourOf_130 : decode cX6_hourOf 130 = .ok (.iconst 3, 1) := by decide +kernel
theorem dX6_hourOf_131 : decode cX6_hourOf 131 = .ok (.iload_n 3, 1) := by decide +kernel
theorem dX6_hourOf_132 : decode cX6_hourOf 132 = .ok (.imul, 1) := by decide +kernel
theorem dX6_hourOf_133 : decode cX6_hourOf 133 = .ok (.iconst (-1), 1) := by decide +kernel
theorem dX6_hourOf_134 : decode cX6_hourOf 134 = .ok (.iastore, 1) := by decide +kernel
theorem dX6_hourOf_135 : decode cX6_hourOf 135 = .ok (.aload_n 0, 1) := by decide +kernel
theorem dX6_hourOf_136 : decode cX6_hourOf 136 = .ok (.getfield 16, 3) := by decide +kernel
theorem dX6_hourOf_139 : decode cX6_hourOf 139 = .ok (.iconst 3, 1) := by decide +kernel
theorem dX6_hourOf_140 : decode cX6_hourOf 140 = .ok (.iload 4, 2) := by decide +kernel
theorem dX6_hourOf_142 : decode cX6_hourOf 142 = .ok (.imul, 1) := by decide +kernel
theorem dX6_hourOf_143 : decode cX6_hourOf 143 = .ok (.iconst 2, 1) := by decide +kernel
theorem dX6_hourOf_144 : decode cX6_hourOf 144 = .ok (.iadd, 1) := by decide +kernel
theorem dX6_hourOf_145 : decode cX6_hourOf 145 = .ok (.aload_n 0, 1) := by decide +kernel
theorem dX6_hourOf_146 : decode cX6_hourOf 146 = .ok (.getfield 16, 3) := by decide +kernel
theorem dX6_hourOf_149 : decode cX6_hourOf 149 = .ok (.iconst 3, 1) := by decide +kernel
theorem dX6_hourOf_150 : decode cX6_hourOf 150 = .ok (.iload 4, 2) := by decide +kernel
theorem dX6_hourOf_152 : decode cX6_hourOf 152 = .ok (.imul, 1) := by decide +kernel
theorem dX6_hourOf_153 : decode cX6_hourOf 153 = .ok (.iconst 2, 1) := by decide +kernel
theorem dX6_hourOf_154 : decode cX6_hourOf 154 = .ok (.iadd, 1) := by decide +kernel
theorem dX6_hourOf_155 : decode cX6_hourOf 155 = .ok (.iaload, 1) := by decide +kernel
theorem dX6_hourOf_156 : decode cX6_hourOf 156 = .ok (.iconst 1, 1) := by decide +kernel
theorem dX6_hourOf_157 : decode cX6_hourOf 157 = .ok (.iadd, 1) := by decide +kernel
theorem dX6_hourOf_158 : decode cX6_hourOf 158 = .ok (.iconst 0, 1) := by decide +kernel
theorem dX6_hourOf_159 : decode cX6_hourOf 159 = .ok (.bipush 99, 2) := by decide +kernel
theorem dX6_hourOf_161 : decode cX6_hourOf 161 = .ok (.invokestatic 85, 3) := by decide +kernel
theorem dX6_hourOf_164 : decode cX6_hourOf 164 = .ok (.iastore, 1) := by decide +kernel
theorem dX6_hourOf_165 : decode cX6_hourOf 165 = .ok (.iinc 3 1, 3) := by decide +kernel
theorem dX6_hourOf_168 : decode cX6_hourOf 168 = .ok (.goto (-156), 3) := by decide +kernel
theorem dX6_hourOf_171 : decode cX6_hourOf 171 = .ok (.aload_n 0, 1) := by decide +kernel
theorem dX6_hourOf_172 : decode cX6_hourOf 172 = .ok (.dup, 1) := by decide +kernel
theorem dX6_hourOf_173 : decode cX6_hourOf 173 = .ok (.getfield 93, 3) := by decide +kernel
theorem dX6_hourOf_176 : decode cX6_hourOf 176 = .ok (.iconst 1, 1) := by decide +kernel
theorem dX6_hourOf_177 : decode cX6_hourOf 177 = .ok (.iadd, 1) := by decide +kernel
theorem dX6_hourOf_178 : decode cX6_hourOf 178 = .ok (.putfield 93, 3) := by decide +kernel
theorem dX6_hourOf_181 : decode cX6_hourOf 181 = .ok (.iload_n 1, 1) := by decide +kernel
theorem dX6_hourOf_182 : decode cX6_hourOf 182 = .ok (.ireturn, 1) := by decide +kernel
set_option maxRecDepth 20000 in
theorem ggX6_hour_X6_hourOf : GoodIn wsX6_hour wsX6_hourOf := goodIn_r _ [6, 1, 7, 8, 9, 10, 11, 12, 5, 13, 14, 15, 16, 17, 18, 19, 20, 21, 22, 23, 24, 25, 26, 27, 28, 29, 30, 31, 32, 33, 34, 35, 36, 37, 38, 39, 40, 41, 42, 43, 44, 45, 46, 47, 48, 49, 50, 51, 52, 53, 54, 55, 56, 57, 58, 59, 60, 61, 62, 63, 64, 65, 66, 67, 68, 69, 70, 71, 72, 73, 74, 75, 76, 77, 78, 79, 80, 81, 82, 83, 84, 85, 86, 87, 88, 89, 90, 91, 92] (by decide +kernel) (by decide +kernel)
set_option maxRecDepth 20000 in
theorem gX6_hour_X6_hourOf : GoodIn wsX6_hour (wsV RX6 213 RX6 yX6_hourOf wsX6_hourOf) := goodIn_app (goodIn_of _ (by decide +kernel)) ggX6_hour_X6_hourOf
theorem dX6_hour_0 : decode cX6_hour 0 = .ok (.aload_n 0, 1) := by decide +kernel
theorem dX6_hour_1 : decode cX6_hour 1 = .ok (.getfield 93, 3) := by decide +kernel
theorem dX6_hour_4 : decode cX6_hour 4 = .ok (.sipush 999, 3) := by decide +kernel
theorem dX6_hour_7 : decode cX6_hour 7 = .ok (.if_icmp .ne 8, 3) := by decide +kernel
theorem dX6_hour_10 : decode cX6_hour 10 = .ok (.bipush (-3), 2) := by decide +kernel
theorem dX6_hour_12 : decode cX6_hour 12 = .ok (.goto 7, 3) := by decide +kernel
theorem dX6_hour_15 : decode cX6_hour 15 = .ok (.aload_n 0, 1) := by decide +kernel
theorem dX6_hour_16 : decode cX6_hour 16 = .ok (.invokevirtual 213, 3) := by decide +kernel
theorem dX6_hour_19 : decode cX6_hour 19 = .ok (.ireturn, 1) := by decide +kernel
set_option maxRecDepth 20000 in
theorem ggX6_burn_X6_isLinen : GoodIn wsX6_burn wsX6_isLinen := goodIn_r _ [6, 1, 7, 8, 5, 9, 10, 11, 12, 13, 14, 15, 16, 17, 18, 19, 20, 21, 22, 23, 24, 25, 26, 27, 28, 29, 30, 31, 32, 33, 34, 35, 36, 37, 38, 39, 40, 41, 42, 43, 44, 45, 46, 47, 48, 49, 50] (by decide +kernel) (by decide +kernel)
set_option maxRecDepth 20000 in
theorem gX6_burn_X6_isLinen : GoodIn wsX6_burn (wsV RX6 89 RX6 yX6_isLinen wsX6_isLinen) := goodIn_app (goodIn_of _ (by decide +kernel)) ggX6_burn_X6_isLinen
theorem dX6_burn_0 : decode cX6_burn 0 = .ok (.aload_n 0, 1) := by decide +kernel
theorem dX6_burn_1 : decode cX6_burn 1 = .ok (.iload_n 1, 1) := by decide +kernel
theorem dX6_burn_2 : decode cX6_burn 2 = .ok (.invokevirtual 89, 3) := by decide +kernel
theorem dX6_burn_5 : decode cX6_burn 5 = .ok (.ifCond .ne 6, 3) := by decide +kernel
theorem dX6_burn_8 : decode cX6_burn 8 = .ok (.bipush (-6), 2) := by decide +kernel
theorem dX6_burn_10 : decode cX6_burn 10 = .ok (.ireturn, 1) := by decide +kernel
theorem dX6_burn_11 : decode cX6_burn 11 = .ok (.aload_n 0, 1) := by decide +kernel
theorem dX6_burn_12 : decode cX6_burn 12 = .ok (.getfield 19, 3) := by decide +kernel
theorem dX6_burn_15 : decode cX6_burn 15 = .ok (.iconst 3, 1) := by decide +kernel
theorem dX6_burn_16 : decode cX6_burn 16 = .ok (.iload_n 1, 1) := by decide +kernel
theorem dX6_burn_17 : decode cX6_burn 17 = .ok (.imul, 1) := by decide +kernel
theorem dX6_burn_18 : decode cX6_burn 18 = .ok (.iconst (-1), 1) := by decide +kernel
theorem dX6_burn_19 : decode cX6_burn 19 = .ok (.iastore, 1) := by decide +kernel
theorem dX6_burn_20 : decode cX6_burn 20 = .ok (.aload_n 0, 1) := by decide +kernel
theorem dX6_burn_21 : decode cX6_burn 21 = .ok (.getfield 19, 3) := by decide +kernel
theorem dX6_burn_24 : decode cX6_burn 24 = .ok (.iconst 3, 1) := by decide +kernel
theorem dX6_burn_25 : decode cX6_burn 25 = .ok (.iload_n 1, 1) := by decide +kernel
theorem dX6_burn_26 : decode cX6_burn 26 = .ok (.imul, 1) := by decide +kernel
theorem dX6_burn_27 : decode cX6_burn 27 = .ok (.iconst 1, 1) := by decide +kernel
theorem dX6_burn_28 : decode cX6_burn 28 = .ok (.iadd, 1) := by decide +kernel
theorem dX6_burn_29 : decode cX6_burn 29 = .ok (.iaload, 1) := by decide +kernel
theorem dX6_burn_30 : decode cX6_burn 30 = .ok (.ireturn, 1) := by decide +kernel
theorem dX6_keeps_0 : decode cX6_keeps 0 = .ok (.iconst 0, 1) := by decide +kernel
theorem dX6_keeps_1 : decode cX6_keeps 1 = .ok (.istore_n 1, 1) := by decide +kernel
theorem dX6_keeps_2 : decode cX6_keeps 2 = .ok (.iload_n 1, 1) := by decide +kernel
theorem dX6_keeps_3 : decode cX6_keeps 3 = .ok (.bipush 18, 2) := by decide +kernel
theorem dX6_keeps_5 : decode cX6_keeps 5 = .ok (.if_icmp .ge 21, 3) := by decide +kernel
theorem dX6_keeps_8 : decode cX6_keeps 8 = .ok (.aload_n 0, 1) := by decide +kernel
theorem dX6_keeps_9 : decode cX6_keeps 9 = .ok (.getfield 67, 3) := by decide +kernel
theorem dX6_keeps_12 : decode cX6_keeps 12 = .ok (.iload_n 1, 1) := by decide +kernel
theorem dX6_keeps_13 : decode cX6_keeps 13 = .ok (.aload_n 0, 1) := by decide +kernel
theorem dX6_keeps_14 : decode cX6_keeps 14 = .ok (.getfield 16, 3) := by decide +kernel
theorem dX6_keeps_17 : decode cX6_keeps 17 = .ok (.iload_n 1, 1) := by decide +kernel
theorem dX6_keeps_18 : decode cX6_keeps 18 = .ok (.iaload, 1) := by decide +kernel
theorem dX6_keeps_19 : decode cX6_keeps 19 = .ok (.iastore, 1) := by decide +kernel
theorem dX6_keeps_20 : decode cX6_keeps 20 = .ok (.iinc 1 1, 3) := by decide +kernel
theorem dX6_keeps_23 : decode cX6_keeps 23 = .ok (.goto (-21), 3) := by decide +kernel
theorem dX6_keeps_26 : decode cX6_keeps 26 = .ok (.iconst 0, 1) := by decide +kernel
theorem dX6_keeps_27 : decode cX6_keeps 27 = .ok (.istore_n 1, 1) := by decide +kernel
theorem dX6_keeps_28 : decode cX6_keeps 28 = .ok (.iload_n 1, 1) := by decide +kernel
theorem dX6_keeps_29 : decode cX6_keeps 29 = .ok (.bipush 24, 2) := by decide +kernel
theorem dX6_keeps_31 : decode cX6_keeps 31 = .ok (.if_icmp .ge 24, 3) := by decide +kernel
theorem dX6_keeps_34 : decode cX6_keeps 34 = .ok (.aload_n 0, 1) := by decide +kernel
theorem dX6_keeps_35 : decode cX6_keeps 35 = .ok (.getfield 67, 3) := by decide +kernel
theorem dX6_keeps_38 : decode cX6_keeps 38 = .ok (.bipush 18, 2) := by decide +kernel
theorem dX6_keeps_40 : decode cX6_keeps 40 = .ok (.iload_n 1, 1) := by decide +kernel
theorem dX6_keeps_41 : decode cX6_keeps 41 = .ok (.iadd, 1) := by decide +kernel
theorem dX6_keeps_42 : decode cX6_keeps 42 = .ok (.aload_n 0, 1) := by decide +kernel
theorem dX6_keeps_43 : decode cX6_keeps 43 = .ok (.getfield 19, 3) := by decide +kernel
theorem dX6_keeps_46 : decode cX6_keeps 46 = .ok (.iload_n 1, 1) := by decide +kernel
theorem dX6_keeps_47 : decode cX6_keeps 47 = .ok (.iaload, 1) := by decide +kernel
theorem dX6_keeps_48 : decode cX6_keeps 48 = .ok (.iastore, 1) := by decide +kernel
theorem dX6_keeps_49 : decode cX6_keeps 49 = .ok (.iinc 1 1, 3) := by decide +kernel
theorem dX6_keeps_52 : decode cX6_keeps 52 = .ok (.goto (-24), 3) := by decide +kernel
theorem dX6_keeps_55 : decode cX6_keeps 55 = .ok (.aload_n 0, 1) := by decide +kernel
theorem dX6_keeps_56 : decode cX6_keeps 56 = .ok (.getfield 67, 3) := by decide +kernel
theorem dX6_keeps_59 : decode cX6_keeps 59 = .ok (.bipush 42, 2) := by decide +kernel
theorem dX6_keeps_61 : decode cX6_keeps 61 = .ok (.aload_n 0, 1) := by decide +kernel
theorem dX6_keeps_62 : decode cX6_keeps 62 = .ok (.getfield 109, 3) := by decide +kernel
theorem dX6_keeps_65 : decode cX6_keeps 65 = .ok (.iastore, 1) := by decide +kernel
theorem dX6_keeps_66 : decode cX6_keeps 66 = .ok (.aload_n 0, 1) := by decide +kernel
theorem dX6_keeps_67 : decode cX6_keeps 67 = .ok (.getfield 67, 3) := by decide +kernel
theorem dX6_keeps_70 : decode cX6_keeps 70 = .ok (.bipush 43, 2) := by decide +kernel
theorem dX6_keeps_72 : decode cX6_keeps 72 = .ok (.aload_n 0, 1) := by decide +kernel
theorem dX6_keeps_73 : decode cX6_keeps 73 = .ok (.getfield 93, 3) := by decide +kernel
theorem dX6_keeps_76 : decode cX6_keeps 76 = .ok (.iastore, 1) := by decide +kernel
theorem dX6_keeps_77 : decode cX6_keeps 77 = .ok (.return_, 1) := by decide +kernel
theorem dX6_lays_0 : decode cX6_lays 0 = .ok (.iconst 0, 1) := by decide +kernel
theorem dX6_lays_1 : decode cX6_lays 1 = .ok (.istore_n 1, 1) := by decide +kernel
theorem dX6_lays_2 : decode cX6_lays 2 = .ok (.iload_n 1, 1) := by decide +kernel
theorem dX6_lays_3 : decode cX6_lays 3 = .ok (.bipush 18, 2) := by decide +kernel
theorem dX6_lays_5 : decode cX6_lays 5 = .ok (.if_icmp .ge 21, 3) := by decide +kernel
theorem dX6_lays_8 : decode cX6_lays 8 = .ok (.aload_n 0, 1) := by decide +kernel
theorem dX6_lays_9 : decode cX6_lays 9 = .ok (.getfield 16, 3) := by decide +kernel
theorem dX6_lays_12 : decode cX6_lays 12 = .ok (.iload_n 1, 1) := by decide +kernel
theorem dX6_lays_13 : decode cX6_lays 13 = .ok (.aload_n 0, 1) := by decide +kernel
theorem dX6_lays_14 : decode cX6_lays 14 = .ok (.getfield 67, 3) := by decide +kernel
theorem dX6_lays_17 : decode cX6_lays 17 = .ok (.iload_n 1, 1) := by decide +kernel
theorem dX6_lays_18 : decode cX6_lays 18 = .ok (.iaload, 1) := by decide +kernel
theorem dX6_lays_19 : decode cX6_lays 19 = .ok (.iastore, 1) := by decide +kernel
theorem dX6_lays_20 : decode cX6_lays 20 = .ok (.iinc 1 1, 3) := by decide +kernel
theorem dX6_lays_23 : decode cX6_lays 23 = .ok (.goto (-21), 3) := by decide +kernel
theorem dX6_lays_26 : decode cX6_lays 26 = .ok (.iconst 0, 1) := by decide +kernel
theorem dX6_lays_27 : decode cX6_lays 27 = .ok (.istore_n 1, 1) := by decide +kernel
theorem dX6_lays_28 : decode cX6_lays 28 = .ok (.iload_n 1, 1) := by decide +kernel
theorem dX6_lays_29 : decode cX6_lays 29 = .ok (.bipush 24, 2) := by decide +kernel
theorem dX6_lays_31 : decode cX6_lays 31 = .ok (.if_icmp .ge 24, 3) := by decide +kernel
theorem dX6_lays_34 : decode cX6_lays 34 = .ok (.aload_n 0, 1) := by decide +kernel
theorem dX6_lays_35 : decode cX6_lays 35 = .ok (.getfield 19, 3) := by decide +kernel
theorem dX6_lays_38 : decode cX6_lays 38 = .ok (.iload_n 1, 1) := by decide +kernel
theorem dX6_lays_39 : decode cX6_lays 39 = .ok (.aload_n 0, 1) := by decide +kernel
theorem dX6_lays_40 : decode cX6_lays 40 = .ok (.getfield 67, 3) := by decide +kernel
theorem dX6_lays_43 : decode cX6_lays 43 = .ok (.bipush 18, 2) := by decide +kernel
theorem dX6_lays_45 : decode cX6_lays 45 = .ok (.iload_n 1, 1) := by decide +kernel
theorem dX6_lays_46 : decode cX6_lays 46 = .ok (.iadd, 1) := by decide +kernel
theorem dX6_lays_47 : decode cX6_lays 47 = .ok (.iaload, 1) := by decide +kernel
theorem dX6_lays_48 : decode cX6_lays 48 = .ok (.iastore, 1) := by decide +kernel
theorem dX6_lays_49 : decode cX6_lays 49 = .ok (.iinc 1 1, 3) := by decide +kernel
theorem dX6_lays_52 : decode cX6_lays 52 = .ok (.goto (-24), 3) := by decide +kernel
theorem dX6_lays_55 : decode cX6_lays 55 = .ok (.aload_n 0, 1) := by decide +kernel
theorem dX6_lays_56 : decode cX6_lays 56 = .ok (.aload_n 0, 1) := by decide +kernel
theorem dX6_lays_57 : decode cX6_lays 57 = .ok (.getfield 67, 3) := by decide +kernel
theorem dX6_lays_60 : decode cX6_lays 60 = .ok (.bipush 42, 2) := by decide +kernel
theorem dX6_lays_62 : decode cX6_lays 62 = .ok (.iaload, 1) := by decide +kernel
theorem dX6_lays_63 : decode cX6_lays 63 = .ok (.putfield 109, 3) := by decide +kernel
theorem dX6_lays_66 : decode cX6_lays 66 = .ok (.aload_n 0, 1) := by decide +kernel
theorem dX6_lays_67 : decode cX6_lays 67 = .ok (.aload_n 0, 1) := by decide +kernel
theorem dX6_lays_68 : decode cX6_lays 68 = .ok (.getfield 67, 3) := by decide +kernel
theorem dX6_lays_71 : decode cX6_lays 71 = .ok (.bipush 43, 2) := by decide +kernel
theorem dX6_lays_73 : decode cX6_lays 73 = .ok (.iaload, 1) := by decide +kernel
theorem dX6_lays_74 : decode cX6_lays 74 = .ok (.putfield 93, 3) := by decide +kernel
theorem dX6_lays_77 : decode cX6_lays 77 = .ok (.return_, 1) := by decide +kernel
set_option maxRecDepth 20000 in
theorem ggX6_goes_X6_hourOf : GoodIn wsX6_goes wsX6_hourOf := goodIn_r _ [5, 6, 7, 8, 9, 10, 11, 12, 4, 13, 14, 15, 16, 17, 18, 19, 20, 21, 22, 23, 24, 25, 26, 27, 28, 29, 30, 31, 32, 33, 34, 35, 36, 37, 38, 39, 40, 41, 42, 43, 44, 45, 46, 47, 48, 49, 50, 51, 52, 53, 54, 55, 56, 57, 58, 59, 60, 61, 62, 63, 64, 65, 66, 67, 68, 69, 70, 71, 72, 73, 74, 75, 76, 77, 78, 79, 80, 81, 82, 83, 84, 85, 86, 87, 88, 89, 90, 91, 92] (by decide +kernel) (by decide +kernel)
set_option maxRecDepth 20000 in
theorem gX6_goes_X6_hourOf : GoodIn wsX6_goes (wsV RX6 213 RX6 yX6_hourOf wsX6_hourOf) := goodIn_app (goodIn_of _ (by decide +kernel)) ggX6_goes_X6_hourOf
theorem dX6_goes_0 : decode cX6_goes 0 = .ok (.iconst 0, 1) := by decide +kernel
theorem dX6_goes_1 : decode cX6_goes 1 = .ok (.istore_n 2, 1) := by decide +kernel
theorem dX6_goes_2 : decode cX6_goes 2 = .ok (.iload_n 2, 1) := by decide +kernel
theorem dX6_goes_3 : decode cX6_goes 3 = .ok (.iload_n 1, 1) := by decide +kernel
theorem dX6_goes_4 : decode cX6_goes 4 = .ok (.if_icmp .ge 14, 3) := by decide +kernel
theorem dX6_goes_7 : decode cX6_goes 7 = .ok (.aload_n 0, 1) := by decide +kernel
theorem dX6_goes_8 : decode cX6_goes 8 = .ok (.invokevirtual 213, 3) := by decide +kernel
theorem dX6_goes_11 : decode cX6_goes 11 = .ok (.pop, 1) := by decide +kernel
theorem dX6_goes_12 : decode cX6_goes 12 = .ok (.iinc 2 1, 3) := by decide +kernel
theorem dX6_goes_15 : decode cX6_goes 15 = .ok (.goto (-13), 3) := by decide +kernel
theorem dX6_goes_18 : decode cX6_goes 18 = .ok (.return_, 1) := by decide +kernel
set_option maxRecDepth 20000 in
theorem ggX6_run_X6_in : GoodIn wsX6_run wsX6_in := goodIn_r _ [7] (by decide +kernel) (by decide +kernel)
set_option maxRecDepth 20000 in
theorem gX6_run_X6_in : GoodIn wsX6_run (va_wsS RX6 81 yX6_in wsX6_in) := goodIn_app (goodIn_of _ (by decide +kernel)) ggX6_run_X6_in
set_option maxRecDepth 20000 in
theorem ggX6_run_X6_keeps : GoodIn wsX6_run wsX6_keeps := goodIn_r _ [11, 12, 3, 13, 2, 14, 74, 75, 76, 77, 78, 79, 80, 81, 82, 83, 84, 85, 86, 87, 88, 89, 90, 91, 92, 93, 94, 95, 96, 97, 98, 99, 100, 101, 102, 103, 104, 105, 106, 107, 108, 109, 110, 111] (by decide +kernel) (by decide +kernel)
set_option maxRecDepth 20000 in
theorem gX6_run_X6_keeps : GoodIn wsX6_run (wsV RX6 216 RX6 yX6_keeps wsX6_keeps) := goodIn_app (goodIn_of _ (by decide +kernel)) ggX6_run_X6_keeps
set_option maxRecDepth 20000 in
theorem ggX6_run_X6_goes : GoodIn wsX6_run wsX6_goes := goodIn_r _ [18, 19, 20, 21, 6, 22, 14, 13, 2, 3, 23, 24, 25, 26, 4, 5, 7, 27, 28, 29, 30, 31, 32, 33, 34, 35, 36, 37, 38, 39, 40, 41, 42, 43, 44, 45, 46, 47, 48, 49, 50, 51, 52, 53, 54, 55, 56, 57, 58, 59, 60, 61, 62, 63, 64, 74, 75, 76, 77, 78, 79, 80, 81, 82, 83, 84, 85, 86, 87, 88, 89, 90, 91, 92, 93, 94, 95, 96, 97, 98, 99, 100, 101, 102, 103, 104, 105, 106, 107, 108, 109, 110, 111] (by decide +kernel) (by decide +kernel)
set_option maxRecDepth 20000 in
theorem gX6_run_X6_goes : GoodIn wsX6_run (wsV RX6 219 RX6 yX6_goes wsX6_goes) := goodIn_app (goodIn_of _ (by decide +kernel)) ggX6_run_X6_goes
set_option maxRecDepth 20000 in
theorem ggX6_run_X6_verdictOf : GoodIn wsX6_run wsX6_verdictOf := goodIn_r _ [68, 69, 74, 75, 76, 77, 78, 79, 80, 81, 82, 83, 84, 85, 86, 87, 88, 89, 90, 91, 92, 93, 94, 95, 96, 97, 98, 99, 100, 101, 102, 103, 104, 105, 106, 107, 108, 109, 110, 111] (by decide +kernel) (by decide +kernel)
set_option maxRecDepth 20000 in
theorem gX6_run_X6_verdictOf : GoodIn wsX6_run (wsV RX6 112 RX6 yX6_verdictOf wsX6_verdictOf) := goodIn_app (goodIn_of _ (by decide +kernel)) ggX6_run_X6_verdictOf
set_option maxRecDepth 20000 in
theorem ggX6_run_X6_lying : GoodIn wsX6_run wsX6_lying := goodIn_r _ [52, 23, 24, 25, 6, 26, 13, 4, 5, 7, 27, 28, 29, 74, 75, 76, 77, 78, 79, 80, 81, 82, 83, 84, 85, 86, 87, 88, 89, 90, 91, 92, 93, 94, 95, 96, 97, 98, 99, 100, 101, 102, 103, 104, 105, 106, 107, 108, 109, 110, 111] (by decide +kernel) (by decide +kernel)
set_option maxRecDepth 20000 in
theorem gX6_run_X6_lying : GoodIn wsX6_run (wsV RX6 96 RX6 yX6_lying wsX6_lying) := goodIn_app (goodIn_of _ (by decide +kernel)) ggX6_run_X6_lying
set_option maxRecDepth 20000 in
theorem ggX6_run_X6_lays : GoodIn wsX6_run wsX6_lays := goodIn_r _ [73, 3, 12, 13, 2, 14, 74, 75, 76, 77, 78, 79, 80, 81, 82, 83, 84, 85, 86, 87, 88, 89, 90, 91, 92, 93, 94, 95, 96, 97, 98, 99, 100, 101, 102, 103, 104, 105, 106, 107, 108, 109, 110, 111] (by decide +kernel) (by decide +kernel)
set_option maxRecDepth 20000 in
theorem gX6_run_X6_lays : GoodIn wsX6_run (wsV RX6 222 RX6 yX6_lays wsX6_lays) := goodIn_app (goodIn_of _ (by decide +kernel)) ggX6_run_X6_lays
theorem dX6_run_0 : decode cX6_run 0 = .ok (.iload_n 1, 1) := by decide +kernel
theorem dX6_run_1 : decode cX6_run 1 = .ok (.iconst 0, 1) := by decide +kernel
theorem dX6_run_2 : decode cX6_run 2 = .ok (.bipush 40, 2) := by decide +kernel
theorem dX6_run_4 : decode cX6_run 4 = .ok (.invokestatic 81, 3) := by decide +kernel
theorem dX6_run_7 : decode cX6_run 7 = .ok (.ifCond .eq 28, 3) := by decide +kernel
theorem dX6_run_10 : decode cX6_run 10 = .ok (.iload_n 2, 1) := by decide +kernel
theorem dX6_run_11 : decode cX6_run 11 = .ok (.iconst 0, 1) := by decide +kernel
theorem dX6_run_12 : decode cX6_run 12 = .ok (.iconst 2, 1) := by decide +kernel
theorem dX6_run_13 : decode cX6_run 13 = .ok (.invokestatic 81, 3) := by decide +kernel
theorem dX6_run_16 : decode cX6_run 16 = .ok (.ifCond .ne 23, 3) := by decide +kernel
theorem dX6_run_19 : decode cX6_run 19 = .ok (.iload_n 2, 1) := by decide +kernel
theorem dX6_run_20 : decode cX6_run 20 = .ok (.bipush 10, 2) := by decide +kernel
theorem dX6_run_22 : decode cX6_run 22 = .ok (.bipush 9, 2) := by decide +kernel
theorem dX6_run_24 : decode cX6_run 24 = .ok (.aload_n 0, 1) := by decide +kernel
theorem dX6_run_25 : decode cX6_run 25 = .ok (.getfield 78, 3) := by decide +kernel
theorem dX6_run_28 : decode cX6_run 28 = .ok (.iadd, 1) := by decide +kernel
theorem dX6_run_29 : decode cX6_run 29 = .ok (.invokestatic 81, 3) := by decide +kernel
theorem dX6_run_32 : decode cX6_run 32 = .ok (.ifCond .ne 7, 3) := by decide +kernel
theorem dX6_run_35 : decode cX6_run 35 = .ok (.sipush (-5000), 3) := by decide +kernel
theorem dX6_run_38 : decode cX6_run 38 = .ok (.ireturn, 1) := by decide +kernel
theorem dX6_run_39 : decode cX6_run 39 = .ok (.aload_n 0, 1) := by decide +kernel
theorem dX6_run_40 : decode cX6_run 40 = .ok (.invokevirtual 216, 3) := by decide +kernel
theorem dX6_run_43 : decode cX6_run 43 = .ok (.aload_n 0, 1) := by decide +kernel
theorem dX6_run_44 : decode cX6_run 44 = .ok (.iload_n 1, 1) := by decide +kernel
theorem dX6_run_45 : decode cX6_run 45 = .ok (.invokevirtual 219, 3) := by decide +kernel
theorem dX6_run_48 : decode cX6_run 48 = .ok (.iconst 0, 1) := by decide +kernel
theorem dX6_run_49 : decode cX6_run 49 = .ok (.istore_n 3, 1) := by decide +kernel
theorem dX6_run_50 : decode cX6_run 50 = .ok (.iload_n 2, 1) := by decide +kernel
theorem dX6_run_51 : decode cX6_run 51 = .ok (.iconst 3, 1) := by decide +kernel
theorem dX6_run_52 : decode cX6_run 52 = .ok (.if_icmp .ge 38, 3) := by decide +kernel
theorem dX6_run_55 : decode cX6_run 55 = .ok (.iload_n 2, 1) := by decide +kernel
theorem dX6_run_56 : decode cX6_run 56 = .ok (.ifCond .ne 10, 3) := by decide +kernel
theorem dX6_run_59 : decode cX6_run 59 = .ok (.aload_n 0, 1) := by decide +kernel
theorem dX6_run_60 : decode cX6_run 60 = .ok (.getfield 109, 3) := by decide +kernel
theorem dX6_run_63 : decode cX6_run 63 = .ok (.goto 23, 3) := by decide +kernel
theorem dX6_run_66 : decode cX6_run 66 = .ok (.iload_n 2, 1) := by decide +kernel
theorem dX6_run_67 : decode cX6_run 67 = .ok (.iconst 1, 1) := by decide +kernel
theorem dX6_run_68 : decode cX6_run 68 = .ok (.if_icmp .ne 14, 3) := by decide +kernel
theorem dX6_run_71 : decode cX6_run 71 = .ok (.aload_n 0, 1) := by decide +kernel
theorem dX6_run_72 : decode cX6_run 72 = .ok (.aload_n 0, 1) := by decide +kernel
theorem dX6_run_73 : decode cX6_run 73 = .ok (.getfield 109, 3) := by decide +kernel
theorem dX6_run_76 : decode cX6_run 76 = .ok (.invokevirtual 112, 3) := by decide +kernel
theorem dX6_run_79 : decode cX6_run 79 = .ok (.goto 7, 3) := by decide +kernel
theorem dX6_run_82 : decode cX6_run 82 = .ok (.aload_n 0, 1) := by decide +kernel
theorem dX6_run_83 : decode cX6_run 83 = .ok (.invokevirtual 96, 3) := by decide +kernel
theorem dX6_run_86 : decode cX6_run 86 = .ok (.istore_n 3, 1) := by decide +kernel
theorem dX6_run_87 : decode cX6_run 87 = .ok (.goto 17, 3) := by decide +kernel
theorem dX6_run_90 : decode cX6_run 90 = .ok (.aload_n 0, 1) := by decide +kernel
theorem dX6_run_91 : decode cX6_run 91 = .ok (.getfield 16, 3) := by decide +kernel
theorem dX6_run_94 : decode cX6_run 94 = .ok (.iconst 3, 1) := by decide +kernel
theorem dX6_run_95 : decode cX6_run 95 = .ok (.iload_n 2, 1) := by decide +kernel
theorem dX6_run_96 : decode cX6_run 96 = .ok (.bipush 10, 2) := by decide +kernel
theorem dX6_run_98 : decode cX6_run 98 = .ok (.isub, 1) := by decide +kernel
theorem dX6_run_99 : decode cX6_run 99 = .ok (.imul, 1) := by decide +kernel
theorem dX6_run_100 : decode cX6_run 100 = .ok (.iconst 2, 1) := by decide +kernel
theorem dX6_run_101 : decode cX6_run 101 = .ok (.iadd, 1) := by decide +kernel
theorem dX6_run_102 : decode cX6_run 102 = .ok (.iaload, 1) := by decide +kernel
theorem dX6_run_103 : decode cX6_run 103 = .ok (.istore_n 3, 1) := by decide +kernel
theorem dX6_run_104 : decode cX6_run 104 = .ok (.aload_n 0, 1) := by decide +kernel
theorem dX6_run_105 : decode cX6_run 105 = .ok (.invokevirtual 222, 3) := by decide +kernel
theorem dX6_run_108 : decode cX6_run 108 = .ok (.iload_n 3, 1) := by decide +kernel
theorem dX6_run_109 : decode cX6_run 109 = .ok (.ireturn, 1) := by decide +kernel
set_option maxRecDepth 20000 in
theorem ggX6_when_X6_in : GoodIn wsX6_when wsX6_in := goodIn_r _ [5] (by decide +kernel) (by decide +kernel)
set_option maxRecDepth 20000 in
theorem gX6_when_X6_in : GoodIn wsX6_when (va_wsS RX6 81 yX6_in wsX6_in) := goodIn_app (goodIn_of _ (by decide +kernel)) ggX6_when_X6_in
set_option maxRecDepth 20000 in
theorem ggX6_when_X6_keeps : GoodIn wsX6_when wsX6_keeps := goodIn_r _ [9, 10, 11, 12, 1, 13, 64, 65, 66, 67, 68, 69, 70, 71, 72, 73, 74, 75, 76, 77, 78, 79, 80, 81, 82, 83, 84, 85, 86, 87, 88, 89, 90, 91, 92, 93, 94, 95, 96, 97, 98, 99, 100, 101] (by decide +kernel) (by decide +kernel)
set_option maxRecDepth 20000 in
theorem gX6_when_X6_keeps : GoodIn wsX6_when (wsV RX6 216 RX6 yX6_keeps wsX6_keeps) := goodIn_app (goodIn_of _ (by decide +kernel)) ggX6_when_X6_keeps
set_option maxRecDepth 20000 in
theorem ggX6_when_X6_lying : GoodIn wsX6_when wsX6_lying := goodIn_r _ [17, 18, 19, 20, 4, 21, 12, 2, 3, 5, 22, 23, 24, 64, 65, 66, 67, 68, 69, 70, 71, 72, 73, 74, 75, 76, 77, 78, 79, 80, 81, 82, 83, 84, 85, 86, 87, 88, 89, 90, 91, 92, 93, 94, 95, 96, 97, 98, 99, 100, 101] (by decide +kernel) (by decide +kernel)
set_option maxRecDepth 20000 in
theorem gX6_when_X6_lying : GoodIn wsX6_when (wsV RX6 96 RX6 yX6_lying wsX6_lying) := goodIn_app (goodIn_of _ (by decide +kernel)) ggX6_when_X6_lying
set_option maxRecDepth 20000 in
theorem ggX6_when_X6_within : GoodIn wsX6_when wsX6_within := goodIn_r _ [24] (by decide +kernel) (by decide +kernel)
set_option maxRecDepth 20000 in
theorem gX6_when_X6_within : GoodIn wsX6_when (va_wsS RX6 85 yX6_within wsX6_within) := goodIn_app (goodIn_of _ (by decide +kernel)) ggX6_when_X6_within
set_option maxRecDepth 20000 in
theorem ggX6_when_X6_hourOf : GoodIn wsX6_when wsX6_hourOf := goodIn_r _ [28, 13, 12, 1, 11, 18, 19, 20, 4, 21, 2, 3, 5, 22, 23, 24, 29, 30, 31, 32, 33, 34, 35, 36, 37, 38, 39, 40, 41, 42, 43, 44, 45, 46, 47, 14, 15, 16, 17, 48, 49, 50, 51, 52, 53, 54, 55, 56, 57, 58, 59, 64, 65, 66, 67, 68, 69, 70, 71, 72, 73, 74, 75, 76, 77, 78, 79, 80, 81, 82, 83, 84, 85, 86, 87, 88, 89, 90, 91, 92, 93, 94, 95, 96, 97, 98, 99, 100, 101] (by decide +kernel) (by decide +kernel)
set_option maxRecDepth 20000 in
theorem gX6_when_X6_hourOf : GoodIn wsX6_when (wsV RX6 213 RX6 yX6_hourOf wsX6_hourOf) := goodIn_app (goodIn_of _ (by decide +kernel)) ggX6_when_X6_hourOf
set_option maxRecDepth 20000 in
theorem ggX6_when_X6_lays : GoodIn wsX6_when wsX6_lays := goodIn_r _ [63, 11, 10, 12, 1, 13, 64, 65, 66, 67, 68, 69, 70, 71, 72, 73, 74, 75, 76, 77, 78, 79, 80, 81, 82, 83, 84, 85, 86, 87, 88, 89, 90, 91, 92, 93, 94, 95, 96, 97, 98, 99, 100, 101] (by decide +kernel) (by decide +kernel)
set_option maxRecDepth 20000 in
theorem gX6_when_X6_lays : GoodIn wsX6_when (wsV RX6 222 RX6 yX6_lays wsX6_lays) := goodIn_app (goodIn_of _ (by decide +kernel)) ggX6_when_X6_lays
theorem dX6_when_0 : decode cX6_when 0 = .ok (.iload_n 1, 1) := by decide +kernel
theorem dX6_when_1 : decode cX6_when 1 = .ok (.iconst (-1), 1) := by decide +kernel
theorem dX6_when_2 : decode cX6_when 2 = .ok (.bipush 9, 2) := by decide +kernel
theorem dX6_when_4 : decode cX6_when 4 = .ok (.invokestatic 81, 3) := by decide +kernel
theorem dX6_when_7 : decode cX6_when 7 = .ok (.ifCond .ne 6, 3) := by decide +kernel
theorem dX6_when_10 : decode cX6_when 10 = .ok (.bipush (-7), 2) := by decide +kernel
theorem dX6_when_12 : decode cX6_when 12 = .ok (.ireturn, 1) := by decide +kernel
theorem dX6_when_13 : decode cX6_when 13 = .ok (.iconst (-1), 1) := by decide +kernel
theorem dX6_when_14 : decode cX6_when 14 = .ok (.istore_n 2, 1) := by decide +kernel
theorem dX6_when_15 : decode cX6_when 15 = .ok (.aload_n 0, 1) := by decide +kernel
theorem dX6_when_16 : decode cX6_when 16 = .ok (.invokevirtual 216, 3) := by decide +kernel
theorem dX6_when_19 : decode cX6_when 19 = .ok (.iconst 0, 1) := by decide +kernel
theorem dX6_when_20 : decode cX6_when 20 = .ok (.istore_n 3, 1) := by decide +kernel
theorem dX6_when_21 : decode cX6_when 21 = .ok (.iload_n 3, 1) := by decide +kernel
theorem dX6_when_22 : decode cX6_when 22 = .ok (.bipush 60, 2) := by decide +kernel
theorem dX6_when_24 : decode cX6_when 24 = .ok (.if_icmp .gt 75, 3) := by decide +kernel
theorem dX6_when_27 : decode cX6_when 27 = .ok (.iload_n 2, 1) := by decide +kernel
theorem dX6_when_28 : decode cX6_when 28 = .ok (.iconst (-1), 1) := by decide +kernel
theorem dX6_when_29 : decode cX6_when 29 = .ok (.if_icmp .ne 70, 3) := by decide +kernel
theorem dX6_when_32 : decode cX6_when 32 = .ok (.iload_n 1, 1) := by decide +kernel
theorem dX6_when_33 : decode cX6_when 33 = .ok (.iconst (-1), 1) := by decide +kernel
theorem dX6_when_34 : decode cX6_when 34 = .ok (.if_icmp .ne 18, 3) := by decide +kernel
theorem dX6_when_37 : decode cX6_when 37 = .ok (.aload_n 0, 1) := by decide +kernel
theorem dX6_when_38 : decode cX6_when 38 = .ok (.invokevirtual 96, 3) := by decide +kernel
theorem dX6_when_41 : decode cX6_when 41 = .ok (.ifCond .ne 7, 3) := by decide +kernel
theorem dX6_when_44 : decode cX6_when 44 = .ok (.iconst 1, 1) := by decide +kernel
theorem dX6_when_45 : decode cX6_when 45 = .ok (.goto 30, 3) := by decide +kernel
theorem dX6_when_48 : decode cX6_when 48 = .ok (.iconst 0, 1) := by decide +kernel
theorem dX6_when_49 : decode cX6_when 49 = .ok (.goto 26, 3) := by decide +kernel
theorem dX6_when_52 : decode cX6_when 52 = .ok (.aload_n 0, 1) := by decide +kernel
theorem dX6_when_53 : decode cX6_when 53 = .ok (.getfield 109, 3) := by decide +kernel
theorem dX6_when_56 : decode cX6_when 56 = .ok (.iload_n 1, 1) := by decide +kernel
theorem dX6_when_57 : decode cX6_when 57 = .ok (.iconst 0, 1) := by decide +kernel
theorem dX6_when_58 : decode cX6_when 58 = .ok (.bipush 9, 2) := by decide +kernel
theorem dX6_when_60 : decode cX6_when 60 = .ok (.invokestatic 85, 3) := by decide +kernel
theorem dX6_when_63 : decode cX6_when 63 = .ok (.ishr, 1) := by decide +kernel
theorem dX6_when_64 : decode cX6_when 64 = .ok (.iconst 1, 1) := by decide +kernel
theorem dX6_when_65 : decode cX6_when 65 = .ok (.iand, 1) := by decide +kernel
theorem dX6_when_66 : decode cX6_when 66 = .ok (.iconst 1, 1) := by decide +kernel
theorem dX6_when_67 : decode cX6_when 67 = .ok (.if_icmp .ne 7, 3) := by decide +kernel
theorem dX6_when_70 : decode cX6_when 70 = .ok (.iconst 1, 1) := by decide +kernel
theorem dX6_when_71 : decode cX6_when 71 = .ok (.goto 4, 3) := by decide +kernel
theorem dX6_when_74 : decode cX6_when 74 = .ok (.iconst 0, 1) := by decide +kernel
theorem dX6_when_75 : decode cX6_when 75 = .ok (.istore 4, 2) := by decide +kernel
theorem dX6_when_77 : decode cX6_when 77 = .ok (.iload 4, 2) := by decide +kernel
theorem dX6_when_79 : decode cX6_when 79 = .ok (.ifCond .eq 7, 3) := by decide +kernel
theorem dX6_when_82 : decode cX6_when 82 = .ok (.iload_n 3, 1) := by decide +kernel
theorem dX6_when_83 : decode cX6_when 83 = .ok (.goto 4, 3) := by decide +kernel
theorem dX6_when_86 : decode cX6_when 86 = .ok (.iconst (-1), 1) := by decide +kernel
theorem dX6_when_87 : decode cX6_when 87 = .ok (.istore_n 2, 1) := by decide +kernel
theorem dX6_when_88 : decode cX6_when 88 = .ok (.aload_n 0, 1) := by decide +kernel
theorem dX6_when_89 : decode cX6_when 89 = .ok (.invokevirtual 213, 3) := by decide +kernel
theorem dX6_when_92 : decode cX6_when 92 = .ok (.pop, 1) := by decide +kernel
theorem dX6_when_93 : decode cX6_when 93 = .ok (.iinc 3 1, 3) := by decide +kernel
theorem dX6_when_96 : decode cX6_when 96 = .ok (.goto (-75), 3) := by decide +kernel
theorem dX6_when_99 : decode cX6_when 99 = .ok (.aload_n 0, 1) := by decide +kernel
theorem dX6_when_100 : decode cX6_when 100 = .ok (.invokevirtual 222, 3) := by decide +kernel
theorem dX6_when_103 : decode cX6_when 103 = .ok (.iload_n 2, 1) := by decide +kernel
theorem dX6_when_104 : decode cX6_when 104 = .ok (.ireturn, 1) := by decide +kernel
set_option maxRecDepth 20000 in
theorem ggX6_fateOf_X6_keeps : GoodIn wsX6_fateOf wsX6_keeps := goodIn_r _ [8, 9, 10, 2, 11, 3, 65, 66, 67, 68, 69, 70, 71, 72, 73, 74, 75, 76, 77, 78, 79, 80, 81, 82, 83, 84, 85, 86, 87, 88, 89, 90, 91, 92, 93, 94, 95, 96, 97, 98, 99, 100, 101, 102] (by decide +kernel) (by decide +kernel)
set_option maxRecDepth 20000 in
theorem gX6_fateOf_X6_keeps : GoodIn wsX6_fateOf (wsV RX6 216 RX6 yX6_keeps wsX6_keeps) := goodIn_app (goodIn_of _ (by decide +kernel)) ggX6_fateOf_X6_keeps
set_option maxRecDepth 20000 in
theorem ggX6_fateOf_X6_isLinen : GoodIn wsX6_fateOf wsX6_isLinen := goodIn_r _ [15, 2, 16, 17, 7, 18, 19, 20, 21, 65, 66, 67, 68, 69, 70, 71, 72, 73, 74, 75, 76, 77, 78, 79, 80, 81, 82, 83, 84, 85, 86, 87, 88, 89, 90, 91, 92, 93, 94, 95, 96, 97, 98, 99, 100, 101, 102] (by decide +kernel) (by decide +kernel)
set_option maxRecDepth 20000 in
theorem gX6_fateOf_X6_isLinen : GoodIn wsX6_fateOf (wsV RX6 89 RX6 yX6_isLinen wsX6_isLinen) := goodIn_app (goodIn_of _ (by decide +kernel)) ggX6_fateOf_X6_isLinen
set_option maxRecDepth 20000 in
theorem ggX6_fateOf_X6_hourOf : GoodIn wsX6_fateOf wsX6_hourOf := goodIn_r _ [25, 3, 2, 11, 10, 12, 13, 14, 7, 15, 16, 17, 18, 19, 20, 21, 26, 27, 28, 29, 30, 31, 32, 33, 34, 35, 36, 37, 38, 39, 40, 41, 42, 43, 44, 45, 46, 47, 48, 49, 50, 51, 52, 53, 54, 55, 56, 57, 58, 59, 60, 65, 66, 67, 68, 69, 70, 71, 72, 73, 74, 75, 76, 77, 78, 79, 80, 81, 82, 83, 84, 85, 86, 87, 88, 89, 90, 91, 92, 93, 94, 95, 96, 97, 98, 99, 100, 101, 102] (by decide +kernel) (by decide +kernel)
set_option maxRecDepth 20000 in
theorem gX6_fateOf_X6_hourOf : GoodIn wsX6_fateOf (wsV RX6 213 RX6 yX6_hourOf wsX6_hourOf) := goodIn_app (goodIn_of _ (by decide +kernel)) ggX6_fateOf_X6_hourOf
set_option maxRecDepth 20000 in
theorem ggX6_fateOf_X6_lays : GoodIn wsX6_fateOf wsX6_lays := goodIn_r _ [64, 10, 9, 2, 11, 3, 65, 66, 67, 68, 69, 70, 71, 72, 73, 74, 75, 76, 77, 78, 79, 80, 81, 82, 83, 84, 85, 86, 87, 88, 89, 90, 91, 92, 93, 94, 95, 96, 97, 98, 99, 100, 101, 102] (by decide +kernel) (by decide +kernel)
set_option maxRecDepth 20000 in
theorem gX6_fateOf_X6_lays : GoodIn wsX6_fateOf (wsV RX6 222 RX6 yX6_lays wsX6_lays) := goodIn_app (goodIn_of _ (by decide +kernel)) ggX6_fateOf_X6_lays
theorem dX6_fateOf_0 : decode cX6_fateOf 0 = .ok (.iconst (-1), 1) := by decide +kernel
theorem dX6_fateOf_1 : decode cX6_fateOf 1 = .ok (.istore_n 2, 1) := by decide +kernel
theorem dX6_fateOf_2 : decode cX6_fateOf 2 = .ok (.aload_n 0, 1) := by decide +kernel
theorem dX6_fateOf_3 : decode cX6_fateOf 3 = .ok (.iconst 0, 1) := by decide +kernel
theorem dX6_fateOf_4 : decode cX6_fateOf 4 = .ok (.putfield 225, 3) := by decide +kernel
theorem dX6_fateOf_7 : decode cX6_fateOf 7 = .ok (.aload_n 0, 1) := by decide +kernel
theorem dX6_fateOf_8 : decode cX6_fateOf 8 = .ok (.invokevirtual 216, 3) := by decide +kernel
theorem dX6_fateOf_11 : decode cX6_fateOf 11 = .ok (.aload_n 0, 1) := by decide +kernel
theorem dX6_fateOf_12 : decode cX6_fateOf 12 = .ok (.iload_n 1, 1) := by decide +kernel
theorem dX6_fateOf_13 : decode cX6_fateOf 13 = .ok (.invokevirtual 89, 3) := by decide +kernel
theorem dX6_fateOf_16 : decode cX6_fateOf 16 = .ok (.ifCond .eq 82, 3) := by decide +kernel
theorem dX6_fateOf_19 : decode cX6_fateOf 19 = .ok (.aload_n 0, 1) := by decide +kernel
theorem dX6_fateOf_20 : decode cX6_fateOf 20 = .ok (.getfield 19, 3) := by decide +kernel
theorem dX6_fateOf_23 : decode cX6_fateOf 23 = .ok (.iconst 3, 1) := by decide +kernel
theorem dX6_fateOf_24 : decode cX6_fateOf 24 = .ok (.iload_n 1, 1) := by decide +kernel
theorem dX6_fateOf_25 : decode cX6_fateOf 25 = .ok (.imul, 1) := by decide +kernel
theorem dX6_fateOf_26 : decode cX6_fateOf 26 = .ok (.iconst 2, 1) := by decide +kernel
theorem dX6_fateOf_27 : decode cX6_fateOf 27 = .ok (.iadd, 1) := by decide +kernel
theorem dX6_fateOf_28 : decode cX6_fateOf 28 = .ok (.iaload, 1) := by decide +kernel
theorem dX6_fateOf_29 : decode cX6_fateOf 29 = .ok (.istore_n 3, 1) := by decide +kernel
theorem dX6_fateOf_30 : decode cX6_fateOf 30 = .ok (.aload_n 0, 1) := by decide +kernel
theorem dX6_fateOf_31 : decode cX6_fateOf 31 = .ok (.getfield 93, 3) := by decide +kernel
theorem dX6_fateOf_34 : decode cX6_fateOf 34 = .ok (.bipush 6, 2) := by decide +kernel
theorem dX6_fateOf_36 : decode cX6_fateOf 36 = .ok (.irem, 1) := by decide +kernel
theorem dX6_fateOf_37 : decode cX6_fateOf 37 = .ok (.istore 4, 2) := by decide +kernel
theorem dX6_fateOf_39 : decode cX6_fateOf 39 = .ok (.aload_n 0, 1) := by decide +kernel
theorem dX6_fateOf_40 : decode cX6_fateOf 40 = .ok (.invokevirtual 213, 3) := by decide +kernel
theorem dX6_fateOf_43 : decode cX6_fateOf 43 = .ok (.pop, 1) := by decide +kernel
theorem dX6_fateOf_44 : decode cX6_fateOf 44 = .ok (.aload_n 0, 1) := by decide +kernel
theorem dX6_fateOf_45 : decode cX6_fateOf 45 = .ok (.dup, 1) := by decide +kernel
theorem dX6_fateOf_46 : decode cX6_fateOf 46 = .ok (.getfield 225, 3) := by decide +kernel
theorem dX6_fateOf_49 : decode cX6_fateOf 49 = .ok (.iconst 1, 1) := by decide +kernel
theorem dX6_fateOf_50 : decode cX6_fateOf 50 = .ok (.iadd, 1) := by decide +kernel
theorem dX6_fateOf_51 : decode cX6_fateOf 51 = .ok (.putfield 225, 3) := by decide +kernel
theorem dX6_fateOf_54 : decode cX6_fateOf 54 = .ok (.aload_n 0, 1) := by decide +kernel
theorem dX6_fateOf_55 : decode cX6_fateOf 55 = .ok (.iload_n 1, 1) := by decide +kernel
theorem dX6_fateOf_56 : decode cX6_fateOf 56 = .ok (.invokevirtual 89, 3) := by decide +kernel
theorem dX6_fateOf_59 : decode cX6_fateOf 59 = .ok (.ifCond .ne 7, 3) := by decide +kernel
theorem dX6_fateOf_62 : decode cX6_fateOf 62 = .ok (.iconst 1, 1) := by decide +kernel
theorem dX6_fateOf_63 : decode cX6_fateOf 63 = .ok (.goto 4, 3) := by decide +kernel
theorem dX6_fateOf_66 : decode cX6_fateOf 66 = .ok (.iconst 0, 1) := by decide +kernel
theorem dX6_fateOf_67 : decode cX6_fateOf 67 = .ok (.istore 5, 2) := by decide +kernel
theorem dX6_fateOf_69 : decode cX6_fateOf 69 = .ok (.iload 5, 2) := by decide +kernel
theorem dX6_fateOf_71 : decode cX6_fateOf 71 = .ok (.ifCond .eq 24, 3) := by decide +kernel
theorem dX6_fateOf_74 : decode cX6_fateOf 74 = .ok (.aload_n 0, 1) := by decide +kernel
theorem dX6_fateOf_75 : decode cX6_fateOf 75 = .ok (.getfield 19, 3) := by decide +kernel
theorem dX6_fateOf_78 : decode cX6_fateOf 78 = .ok (.iconst 3, 1) := by decide +kernel
theorem dX6_fateOf_79 : decode cX6_fateOf 79 = .ok (.iload_n 1, 1) := by decide +kernel
theorem dX6_fateOf_80 : decode cX6_fateOf 80 = .ok (.imul, 1) := by decide +kernel
theorem dX6_fateOf_81 : decode cX6_fateOf 81 = .ok (.iconst 2, 1) := by decide +kernel
theorem dX6_fateOf_82 : decode cX6_fateOf 82 = .ok (.iadd, 1) := by decide +kernel
theorem dX6_fateOf_83 : decode cX6_fateOf 83 = .ok (.iaload, 1) := by decide +kernel
theorem dX6_fateOf_84 : decode cX6_fateOf 84 = .ok (.iload_n 3, 1) := by decide +kernel
theorem dX6_fateOf_85 : decode cX6_fateOf 85 = .ok (.if_icmp .ne 8, 3) := by decide +kernel
theorem dX6_fateOf_88 : decode cX6_fateOf 88 = .ok (.iload 4, 2) := by decide +kernel
theorem dX6_fateOf_90 : decode cX6_fateOf 90 = .ok (.goto 4, 3) := by decide +kernel
theorem dX6_fateOf_93 : decode cX6_fateOf 93 = .ok (.iconst (-1), 1) := by decide +kernel
theorem dX6_fateOf_94 : decode cX6_fateOf 94 = .ok (.istore_n 2, 1) := by decide +kernel
theorem dX6_fateOf_95 : decode cX6_fateOf 95 = .ok (.goto (-84), 3) := by decide +kernel
theorem dX6_fateOf_98 : decode cX6_fateOf 98 = .ok (.aload_n 0, 1) := by decide +kernel
theorem dX6_fateOf_99 : decode cX6_fateOf 99 = .ok (.invokevirtual 222, 3) := by decide +kernel
theorem dX6_fateOf_102 : decode cX6_fateOf 102 = .ok (.iload_n 2, 1) := by decide +kernel
theorem dX6_fateOf_103 : decode cX6_fateOf 103 = .ok (.ireturn, 1) := by decide +kernel
set_option maxRecDepth 20000 in
theorem ggX6_fate_X6_isLinen : GoodIn wsX6_fate wsX6_isLinen := goodIn_r _ [6, 7, 8, 9, 5, 10, 11, 12, 13, 69, 70, 71, 72, 73, 74, 75, 76, 77, 78, 79, 80, 81, 82, 83, 84, 85, 86, 87, 88, 89, 90, 91, 92, 93, 94, 95, 96, 97, 98, 99, 100, 101, 102, 103, 104, 105, 106] (by decide +kernel) (by decide +kernel)
set_option maxRecDepth 20000 in
theorem gX6_fate_X6_isLinen : GoodIn wsX6_fate (wsV RX6 89 RX6 yX6_isLinen wsX6_isLinen) := goodIn_app (goodIn_of _ (by decide +kernel)) ggX6_fate_X6_isLinen
set_option maxRecDepth 20000 in
theorem ggX6_fate_X6_in : GoodIn wsX6_fate wsX6_in := goodIn_r _ [10] (by decide +kernel) (by decide +kernel)
set_option maxRecDepth 20000 in
theorem gX6_fate_X6_in : GoodIn wsX6_fate (va_wsS RX6 81 yX6_in wsX6_in) := goodIn_app (goodIn_of _ (by decide +kernel)) ggX6_fate_X6_in
set_option maxRecDepth 20000 in
theorem ggX6_fate_X6_fateOf : GoodIn wsX6_fate wsX6_fateOf := goodIn_r _ [17, 1, 7, 18, 19, 20, 21, 5, 22, 23, 24, 25, 2, 3, 4, 6, 8, 9, 10, 11, 12, 13, 26, 27, 28, 29, 30, 31, 32, 33, 34, 35, 36, 37, 38, 39, 40, 41, 42, 43, 44, 45, 46, 47, 48, 49, 50, 51, 52, 53, 54, 55, 56, 57, 58, 59, 60, 61, 62, 63, 64, 65, 66, 67, 68, 69, 70, 71, 72, 73, 74, 75, 76, 77, 78, 79, 80, 81, 82, 83, 84, 85, 86, 87, 88, 89, 90, 91, 92, 93, 94, 95, 96, 97, 98, 99, 100, 101, 102, 103, 104, 105, 106] (by decide +kernel) (by decide +kernel)
set_option maxRecDepth 20000 in
theorem gX6_fate_X6_fateOf : GoodIn wsX6_fate (wsV RX6 228 RX6 yX6_fateOf wsX6_fateOf) := goodIn_app (goodIn_of _ (by decide +kernel)) ggX6_fate_X6_fateOf
theorem dX6_fate_0 : decode cX6_fate 0 = .ok (.aload_n 0, 1) := by decide +kernel
theorem dX6_fate_1 : decode cX6_fate 1 = .ok (.iload_n 1, 1) := by decide +kernel
theorem dX6_fate_2 : decode cX6_fate 2 = .ok (.invokevirtual 89, 3) := by decide +kernel
theorem dX6_fate_5 : decode cX6_fate 5 = .ok (.ifCond .ne 6, 3) := by decide +kernel
theorem dX6_fate_8 : decode cX6_fate 8 = .ok (.bipush (-6), 2) := by decide +kernel
theorem dX6_fate_10 : decode cX6_fate 10 = .ok (.ireturn, 1) := by decide +kernel
theorem dX6_fate_11 : decode cX6_fate 11 = .ok (.iload_n 2, 1) := by decide +kernel
theorem dX6_fate_12 : decode cX6_fate 12 = .ok (.iconst 0, 1) := by decide +kernel
theorem dX6_fate_13 : decode cX6_fate 13 = .ok (.iconst 1, 1) := by decide +kernel
theorem dX6_fate_14 : decode cX6_fate 14 = .ok (.invokestatic 81, 3) := by decide +kernel
theorem dX6_fate_17 : decode cX6_fate 17 = .ok (.ifCond .ne 6, 3) := by decide +kernel
theorem dX6_fate_20 : decode cX6_fate 20 = .ok (.bipush (-7), 2) := by decide +kernel
theorem dX6_fate_22 : decode cX6_fate 22 = .ok (.ireturn, 1) := by decide +kernel
theorem dX6_fate_23 : decode cX6_fate 23 = .ok (.aload_n 0, 1) := by decide +kernel
theorem dX6_fate_24 : decode cX6_fate 24 = .ok (.iload_n 1, 1) := by decide +kernel
theorem dX6_fate_25 : decode cX6_fate 25 = .ok (.invokevirtual 228, 3) := by decide +kernel
theorem dX6_fate_28 : decode cX6_fate 28 = .ok (.istore_n 3, 1) := by decide +kernel
theorem dX6_fate_29 : decode cX6_fate 29 = .ok (.iload_n 2, 1) := by decide +kernel
theorem dX6_fate_30 : decode cX6_fate 30 = .ok (.ifCond .ne 7, 3) := by decide +kernel
theorem dX6_fate_33 : decode cX6_fate 33 = .ok (.iload_n 3, 1) := by decide +kernel
theorem dX6_fate_34 : decode cX6_fate 34 = .ok (.goto 7, 3) := by decide +kernel
theorem dX6_fate_37 : decode cX6_fate 37 = .ok (.aload_n 0, 1) := by decide +kernel
theorem dX6_fate_38 : decode cX6_fate 38 = .ok (.getfield 225, 3) := by decide +kernel
theorem dX6_fate_41 : decode cX6_fate 41 = .ok (.ireturn, 1) := by decide +kernel
set_option maxRecDepth 20000 in
theorem ggX6_advise_X6_in : GoodIn wsX6_advise wsX6_in := goodIn_r _ [6] (by decide +kernel) (by decide +kernel)
set_option maxRecDepth 20000 in
theorem gX6_advise_X6_in : GoodIn wsX6_advise (va_wsS RX6 81 yX6_in wsX6_in) := goodIn_app (goodIn_of _ (by decide +kernel)) ggX6_advise_X6_in
set_option maxRecDepth 20000 in
theorem ggX6_advise_X6_keeps : GoodIn wsX6_advise wsX6_keeps := goodIn_r _ [10, 11, 12, 13, 1, 14, 93, 94, 95, 96, 97, 98, 99, 100, 101, 102, 103, 104, 105, 106, 107, 108, 109, 110, 111, 112, 113, 114, 115, 116, 117, 118, 119, 120, 121, 122, 123, 124, 125, 126, 127, 128, 129, 130] (by decide +kernel) (by decide +kernel)
set_option maxRecDepth 20000 in
theorem gX6_advise_X6_keeps : GoodIn wsX6_advise (wsV RX6 216 RX6 yX6_keeps wsX6_keeps) := goodIn_app (goodIn_of _ (by decide +kernel)) ggX6_advise_X6_keeps
set_option maxRecDepth 20000 in
theorem ggX6_advise_X6_goes : GoodIn wsX6_advise wsX6_goes := goodIn_r _ [18, 19, 20, 21, 5, 22, 14, 13, 1, 12, 23, 24, 25, 26, 3, 4, 6, 27, 28, 29, 30, 31, 32, 33, 34, 35, 36, 37, 38, 39, 40, 41, 42, 43, 44, 45, 46, 47, 48, 49, 50, 51, 52, 53, 54, 55, 56, 57, 58, 59, 60, 61, 62, 63, 64, 93, 94, 95, 96, 97, 98, 99, 100, 101, 102, 103, 104, 105, 106, 107, 108, 109, 110, 111, 112, 113, 114, 115, 116, 117, 118, 119, 120, 121, 122, 123, 124, 125, 126, 127, 128, 129, 130] (by decide +kernel) (by decide +kernel)
set_option maxRecDepth 20000 in
theorem gX6_advise_X6_goes : GoodIn wsX6_advise (wsV RX6 219 RX6 yX6_goes wsX6_goes) := goodIn_app (goodIn_of _ (by decide +kernel)) ggX6_advise_X6_goes
set_option maxRecDepth 20000 in
theorem ggX6_advise_X6_verdictOf : GoodIn wsX6_advise wsX6_verdictOf := goodIn_r _ [68, 69, 93, 94, 95, 96, 97, 98, 99, 100, 101, 102, 103, 104, 105, 106, 107, 108, 109, 110, 111, 112, 113, 114, 115, 116, 117, 118, 119, 120, 121, 122, 123, 124, 125, 126, 127, 128, 129, 130] (by decide +kernel) (by decide +kernel)
set_option maxRecDepth 20000 in
theorem gX6_advise_X6_verdictOf : GoodIn wsX6_advise (wsV RX6 112 RX6 yX6_verdictOf wsX6_verdictOf) := goodIn_app (goodIn_of _ (by decide +kernel)) ggX6_advise_X6_verdictOf
set_option maxRecDepth 20000 in
theorem ggX6_advise_X6_lays : GoodIn wsX6_advise wsX6_lays := goodIn_r _ [73, 12, 11, 13, 1, 14, 93, 94, 95, 96, 97, 98, 99, 100, 101, 102, 103, 104, 105, 106, 107, 108, 109, 110, 111, 112, 113, 114, 115, 116, 117, 118, 119, 120, 121, 122, 123, 124, 125, 126, 127, 128, 129, 130] (by decide +kernel) (by decide +kernel)
set_option maxRecDepth 20000 in
theorem gX6_advise_X6_lays : GoodIn wsX6_advise (wsV RX6 222 RX6 yX6_lays wsX6_lays) := goodIn_app (goodIn_of _ (by decide +kernel)) ggX6_advise_X6_lays
set_option maxRecDepth 20000 in
theorem ggX6_advise_X6_can : GoodIn wsX6_advise wsX6_can := goodIn_r _ [77, 12, 49, 50, 51, 5, 52, 23, 24, 25, 26, 13, 3, 4, 6, 27, 28, 29, 93, 94, 95, 96, 97, 98, 99, 100, 101, 102, 103, 104, 105, 106, 107, 108, 109, 110, 111, 112, 113, 114, 115, 116, 117, 118, 119, 120, 121, 122, 123, 124, 125, 126, 127, 128, 129, 130] (by decide +kernel) (by decide +kernel)
set_option maxRecDepth 20000 in
theorem gX6_advise_X6_can : GoodIn wsX6_advise (wsV RX6 231 RX6 yX6_can wsX6_can) := goodIn_app (goodIn_of _ (by decide +kernel)) ggX6_advise_X6_can
set_option maxRecDepth 20000 in
theorem ggX6_advise_X6_dropOf : GoodIn wsX6_advise wsX6_dropOf := goodIn_r _ [81, 13, 82, 83, 84, 5, 85, 12, 39, 40, 46, 47, 48, 41, 42, 43, 44, 45, 14, 1, 49, 50, 51, 52, 23, 24, 25, 26, 3, 4, 6, 27, 28, 29, 53, 54, 55, 56, 57, 58, 59, 60, 61, 62, 63, 64, 86, 87, 88, 89, 90, 91, 92, 93, 94, 95, 96, 97, 98, 99, 100, 101, 102, 103, 104, 105, 106, 107, 108, 109, 110, 111, 112, 113, 114, 115, 116, 117, 118, 119, 120, 121, 122, 123, 124, 125, 126, 127, 128, 129, 130] (by decide +kernel) (by decide +kernel)
set_option maxRecDepth 20000 in
theorem gX6_advise_X6_dropOf : GoodIn wsX6_advise (wsV RX6 210 RX6 yX6_dropOf wsX6_dropOf) := goodIn_app (goodIn_of _ (by decide +kernel)) ggX6_advise_X6_dropOf
theorem dX6_advise_0 : decode cX6_advise 0 = .ok (.iload_n 1, 1) := by decide +kernel
theorem dX6_advise_1 : decode cX6_advise 1 = .ok (.iconst 0, 1) := by decide +kernel
theorem dX6_advise_2 : decode cX6_advise 2 = .ok (.bipush 40, 2) := by decide +kernel
theorem dX6_advise_4 : decode cX6_advise 4 = .ok (.invokestatic 81, 3) := by decide +kernel
theorem dX6_advise_7 : decode cX6_advise 7 = .ok (.ifCond .eq 12, 3) := by decide +kernel
theorem dX6_advise_10 : decode cX6_advise 10 = .ok (.iload_n 2, 1) := by decide +kernel
theorem dX6_advise_11 : decode cX6_advise 11 = .ok (.iconst 0, 1) := by decide +kernel
theorem dX6_advise_12 : decode cX6_advise 12 = .ok (.iconst 1, 1) := by decide +kernel
theorem dX6_advise_13 : decode cX6_advise 13 = .ok (.invokestatic 81, 3) := by decide +kernel
theorem dX6_advise_16 : decode cX6_advise 16 = .ok (.ifCond .ne 7, 3) := by decide +kernel
theorem dX6_advise_19 : decode cX6_advise 19 = .ok (.sipush (-5000), 3) := by decide +kernel
theorem dX6_advise_22 : decode cX6_advise 22 = .ok (.ireturn, 1) := by decide +kernel
theorem dX6_advise_23 : decode cX6_advise 23 = .ok (.iconst (-1), 1) := by decide +kernel
theorem dX6_advise_24 : decode cX6_advise 24 = .ok (.istore_n 3, 1) := by decide +kernel
theorem dX6_advise_25 : decode cX6_advise 25 = .ok (.aload_n 0, 1) := by decide +kernel
theorem dX6_advise_26 : decode cX6_advise 26 = .ok (.invokevirtual 216, 3) := by decide +kernel
theorem dX6_advise_29 : decode cX6_advise 29 = .ok (.aload_n 0, 1) := by decide +kernel
theorem dX6_advise_30 : decode cX6_advise 30 = .ok (.iload_n 1, 1) := by decide +kernel
theorem dX6_advise_31 : decode cX6_advise 31 = .ok (.invokevirtual 219, 3) := by decide +kernel
theorem dX6_advise_34 : decode cX6_advise 34 = .ok (.aload_n 0, 1) := by decide +kernel
theorem dX6_advise_35 : decode cX6_advise 35 = .ok (.aload_n 0, 1) := by decide +kernel
theorem dX6_advise_36 : decode cX6_advise 36 = .ok (.getfield 109, 3) := by decide +kernel
theorem dX6_advise_39 : decode cX6_advise 39 = .ok (.invokevirtual 112, 3) := by decide +kernel
theorem dX6_advise_42 : decode cX6_advise 42 = .ok (.istore 4, 2) := by decide +kernel
theorem dX6_advise_44 : decode cX6_advise 44 = .ok (.aload_n 0, 1) := by decide +kernel
theorem dX6_advise_45 : decode cX6_advise 45 = .ok (.invokevirtual 222, 3) := by decide +kernel
theorem dX6_advise_48 : decode cX6_advise 48 = .ok (.iconst 0, 1) := by decide +kernel
theorem dX6_advise_49 : decode cX6_advise 49 = .ok (.istore 5, 2) := by decide +kernel
theorem dX6_advise_51 : decode cX6_advise 51 = .ok (.iload 5, 2) := by decide +kernel
theorem dX6_advise_53 : decode cX6_advise 53 = .ok (.aload_n 0, 1) := by decide +kernel
theorem dX6_advise_54 : decode cX6_advise 54 = .ok (.getfield 78, 3) := by decide +kernel
theorem dX6_advise_57 : decode cX6_advise 57 = .ok (.if_icmp .ge 74, 3) := by decide +kernel
theorem dX6_advise_60 : decode cX6_advise 60 = .ok (.aload_n 0, 1) := by decide +kernel
theorem dX6_advise_61 : decode cX6_advise 61 = .ok (.iload 5, 2) := by decide +kernel
theorem dX6_advise_63 : decode cX6_advise 63 = .ok (.invokevirtual 231, 3) := by decide +kernel
theorem dX6_advise_66 : decode cX6_advise 66 = .ok (.ifCond .eq 59, 3) := by decide +kernel
theorem dX6_advise_69 : decode cX6_advise 69 = .ok (.aload_n 0, 1) := by decide +kernel
theorem dX6_advise_70 : decode cX6_advise 70 = .ok (.iload 5, 2) := by decide +kernel
theorem dX6_advise_72 : decode cX6_advise 72 = .ok (.invokevirtual 210, 3) := by decide +kernel
theorem dX6_advise_75 : decode cX6_advise 75 = .ok (.pop, 1) := by decide +kernel
theorem dX6_advise_76 : decode cX6_advise 76 = .ok (.aload_n 0, 1) := by decide +kernel
theorem dX6_advise_77 : decode cX6_advise 77 = .ok (.iload_n 1, 1) := by decide +kernel
theorem dX6_advise_78 : decode cX6_advise 78 = .ok (.invokevirtual 219, 3) := by decide +kernel
theorem dX6_advise_81 : decode cX6_advise 81 = .ok (.aload_n 0, 1) := by decide +kernel
theorem dX6_advise_82 : decode cX6_advise 82 = .ok (.aload_n 0, 1) := by decide +kernel
theorem dX6_advise_83 : decode cX6_advise 83 = .ok (.getfield 109, 3) := by decide +kernel
theorem dX6_advise_86 : decode cX6_advise 86 = .ok (.invokevirtual 112, 3) := by decide +kernel
theorem dX6_advise_89 : decode cX6_advise 89 = .ok (.istore 6, 2) := by decide +kernel
theorem dX6_advise_91 : decode cX6_advise 91 = .ok (.aload_n 0, 1) := by decide +kernel
theorem dX6_advise_92 : decode cX6_advise 92 = .ok (.invokevirtual 222, 3) := by decide +kernel
theorem dX6_advise_95 : decode cX6_advise 95 = .ok (.iload 6, 2) := by decide +kernel
theorem dX6_advise_97 : decode cX6_advise 97 = .ok (.iload 4, 2) := by decide +kernel
theorem dX6_advise_99 : decode cX6_advise 99 = .ok (.if_icmp .le 8, 3) := by decide +kernel
theorem dX6_advise_102 : decode cX6_advise 102 = .ok (.iload 5, 2) := by decide +kernel
theorem dX6_advise_104 : decode cX6_advise 104 = .ok (.goto 4, 3) := by decide +kernel
theorem dX6_advise_107 : decode cX6_advise 107 = .ok (.iload_n 3, 1) := by decide +kernel
theorem dX6_advise_108 : decode cX6_advise 108 = .ok (.istore_n 3, 1) := by decide +kernel
theorem dX6_advise_109 : decode cX6_advise 109 = .ok (.iload 6, 2) := by decide +kernel
theorem dX6_advise_111 : decode cX6_advise 111 = .ok (.iload 4, 2) := by decide +kernel
theorem dX6_advise_113 : decode cX6_advise 113 = .ok (.if_icmp .le 8, 3) := by decide +kernel
theorem dX6_advise_116 : decode cX6_advise 116 = .ok (.iload 6, 2) := by decide +kernel
theorem dX6_advise_118 : decode cX6_advise 118 = .ok (.goto 5, 3) := by decide +kernel
theorem dX6_advise_121 : decode cX6_advise 121 = .ok (.iload 4, 2) := by decide +kernel
theorem dX6_advise_123 : decode cX6_advise 123 = .ok (.istore 4, 2) := by decide +kernel
theorem dX6_advise_125 : decode cX6_advise 125 = .ok (.iinc 5 1, 3) := by decide +kernel
theorem dX6_advise_128 : decode cX6_advise 128 = .ok (.goto (-77), 3) := by decide +kernel
theorem dX6_advise_131 : decode cX6_advise 131 = .ok (.iload_n 2, 1) := by decide +kernel
theorem dX6_advise_132 : decode cX6_advise 132 = .ok (.ifCond .ne 7, 3) := by decide +kernel
theorem dX6_advise_135 : decode cX6_advise 135 = .ok (.iload_n 3, 1) := by decide +kernel
theorem dX6_advise_136 : decode cX6_advise 136 = .ok (.goto 5, 3) := by decide +kernel
theorem dX6_advise_139 : decode cX6_advise 139 = .ok (.iload 4, 2) := by decide +kernel
theorem dX6_advise_141 : decode cX6_advise 141 = .ok (.ireturn, 1) := by decide +kernel
set_option maxRecDepth 20000 in
theorem ggX6_turn_X6_in : GoodIn wsX6_turn wsX6_in := goodIn_r _ [5] (by decide +kernel) (by decide +kernel)
set_option maxRecDepth 20000 in
theorem gX6_turn_X6_in : GoodIn wsX6_turn (va_wsS RX6 81 yX6_in wsX6_in) := goodIn_app (goodIn_of _ (by decide +kernel)) ggX6_turn_X6_in
set_option maxRecDepth 20000 in
theorem ggX6_turn_X6_verdictOf : GoodIn wsX6_turn wsX6_verdictOf := goodIn_r _ [9, 10, 14, 15, 16, 17, 18, 19, 20, 21, 22, 23, 24, 25, 26, 27, 28, 29, 30, 31, 32, 33, 34, 35, 36, 37, 38, 39, 40, 41, 42, 43, 44, 45, 46, 47, 48, 49, 50, 51] (by decide +kernel) (by decide +kernel)
set_option maxRecDepth 20000 in
theorem gX6_turn_X6_verdictOf : GoodIn wsX6_turn (wsV RX6 112 RX6 yX6_verdictOf wsX6_verdictOf) := goodIn_app (goodIn_of _ (by decide +kernel)) ggX6_turn_X6_verdictOf
set_option maxRecDepth 20000 in
theorem ggX6_turn_X6_onesOf : GoodIn wsX6_turn wsX6_onesOf := goodIn_r _ [13] (by decide +kernel) (by decide +kernel)
set_option maxRecDepth 20000 in
theorem gX6_turn_X6_onesOf : GoodIn wsX6_turn (va_wsS RX6 177 yX6_onesOf wsX6_onesOf) := goodIn_app (goodIn_of _ (by decide +kernel)) ggX6_turn_X6_onesOf
theorem dX6_turn_0 : decode cX6_turn 0 = .ok (.iload_n 1, 1) := by decide +kernel
theorem dX6_turn_1 : decode cX6_turn 1 = .ok (.iconst 0, 1) := by decide +kernel
theorem dX6_turn_2 : decode cX6_turn 2 = .ok (.iconst 1, 1) := by decide +kernel
theorem dX6_turn_3 : decode cX6_turn 3 = .ok (.invokestatic 81, 3) := by decide +kernel
theorem dX6_turn_6 : decode cX6_turn 6 = .ok (.ifCond .ne 6, 3) := by decide +kernel
theorem dX6_turn_9 : decode cX6_turn 9 = .ok (.bipush (-2), 2) := by decide +kernel
theorem dX6_turn_11 : decode cX6_turn 11 = .ok (.ireturn, 1) := by decide +kernel
theorem dX6_turn_12 : decode cX6_turn 12 = .ok (.aload_n 0, 1) := by decide +kernel
theorem dX6_turn_13 : decode cX6_turn 13 = .ok (.aload_n 0, 1) := by decide +kernel
theorem dX6_turn_14 : decode cX6_turn 14 = .ok (.getfield 109, 3) := by decide +kernel
theorem dX6_turn_17 : decode cX6_turn 17 = .ok (.invokevirtual 112, 3) := by decide +kernel
theorem dX6_turn_20 : decode cX6_turn 20 = .ok (.ifCond .le 7, 3) := by decide +kernel
theorem dX6_turn_23 : decode cX6_turn 23 = .ok (.iconst 1, 1) := by decide +kernel
theorem dX6_turn_24 : decode cX6_turn 24 = .ok (.goto 4, 3) := by decide +kernel
theorem dX6_turn_27 : decode cX6_turn 27 = .ok (.iconst 0, 1) := by decide +kernel
theorem dX6_turn_28 : decode cX6_turn 28 = .ok (.istore_n 2, 1) := by decide +kernel
theorem dX6_turn_29 : decode cX6_turn 29 = .ok (.iconst (-1), 1) := by decide +kernel
theorem dX6_turn_30 : decode cX6_turn 30 = .ok (.istore_n 3, 1) := by decide +kernel
theorem dX6_turn_31 : decode cX6_turn 31 = .ok (.iconst (-1), 1) := by decide +kernel
theorem dX6_turn_32 : decode cX6_turn 32 = .ok (.istore 4, 2) := by decide +kernel
theorem dX6_turn_34 : decode cX6_turn 34 = .ok (.iconst 0, 1) := by decide +kernel
theorem dX6_turn_35 : decode cX6_turn 35 = .ok (.istore 5, 2) := by decide +kernel
theorem dX6_turn_37 : decode cX6_turn 37 = .ok (.iload 5, 2) := by decide +kernel
theorem dX6_turn_39 : decode cX6_turn 39 = .ok (.sipush 1023, 3) := by decide +kernel
theorem dX6_turn_42 : decode cX6_turn 42 = .ok (.if_icmp .gt 79, 3) := by decide +kernel
theorem dX6_turn_45 : decode cX6_turn 45 = .ok (.iload 5, 2) := by decide +kernel
theorem dX6_turn_47 : decode cX6_turn 47 = .ok (.aload_n 0, 1) := by decide +kernel
theorem dX6_turn_48 : decode cX6_turn 48 = .ok (.getfield 109, 3) := by decide +kernel
theorem dX6_turn_51 : decode cX6_turn 51 = .ok (.iand, 1) := by decide +kernel
theorem dX6_turn_52 : decode cX6_turn 52 = .ok (.ifCond .ne 63, 3) := by decide +kernel
theorem dX6_turn_55 : decode cX6_turn 55 = .ok (.iload_n 3, 1) := by decide +kernel
theorem dX6_turn_56 : decode cX6_turn 56 = .ok (.iconst (-1), 1) := by decide +kernel
theorem dX6_turn_57 : decode cX6_turn 57 = .ok (.if_icmp .eq 13, 3) := by decide +kernel
theorem dX6_turn_60 : decode cX6_turn 60 = .ok (.iload 5, 2) := by decide +kernel
theorem dX6_turn_62 : decode cX6_turn 62 = .ok (.invokestatic 177, 3) := by decide +kernel
theorem dX6_turn_65 : decode cX6_turn 65 = .ok (.iload 4, 2) := by decide +kernel
theorem dX6_turn_67 : decode cX6_turn 67 = .ok (.if_icmp .ge 7, 3) := by decide +kernel
theorem dX6_turn_70 : decode cX6_turn 70 = .ok (.iconst 1, 1) := by decide +kernel
theorem dX6_turn_71 : decode cX6_turn 71 = .ok (.goto 4, 3) := by decide +kernel
theorem dX6_turn_74 : decode cX6_turn 74 = .ok (.iconst 0, 1) := by decide +kernel
theorem dX6_turn_75 : decode cX6_turn 75 = .ok (.istore 6, 2) := by decide +kernel
theorem dX6_turn_77 : decode cX6_turn 77 = .ok (.iload 6, 2) := by decide +kernel
theorem dX6_turn_79 : decode cX6_turn 79 = .ok (.ifCond .eq 36, 3) := by decide +kernel
theorem dX6_turn_82 : decode cX6_turn 82 = .ok (.aload_n 0, 1) := by decide +kernel
theorem dX6_turn_83 : decode cX6_turn 83 = .ok (.aload_n 0, 1) := by decide +kernel
theorem dX6_turn_84 : decode cX6_turn 84 = .ok (.getfield 109, 3) := by decide +kernel
theorem dX6_turn_87 : decode cX6_turn 87 = .ok (.iload 5, 2) := by decide +kernel
theorem dX6_turn_89 : decode cX6_turn 89 = .ok (.ior, 1) := by decide +kernel
theorem dX6_turn_90 : decode cX6_turn 90 = .ok (.invokevirtual 112, 3) := by decide +kernel
theorem dX6_turn_93 : decode cX6_turn 93 = .ok (.ifCond .le 7, 3) := by decide +kernel
theorem dX6_turn_96 : decode cX6_turn 96 = .ok (.iconst 1, 1) := by decide +kernel
theorem dX6_turn_97 : decode cX6_turn 97 = .ok (.goto 4, 3) := by decide +kernel
theorem dX6_turn_100 : decode cX6_turn 100 = .ok (.iconst 0, 1) := by decide +kernel
theorem dX6_turn_101 : decode cX6_turn 101 = .ok (.iload_n 2, 1) := by decide +kernel
theorem dX6_turn_102 : decode cX6_turn 102 = .ok (.if_icmp .eq 13, 3) := by decide +kernel
theorem dX6_turn_105 : decode cX6_turn 105 = .ok (.iload 5, 2) := by decide +kernel
theorem dX6_turn_107 : decode cX6_turn 107 = .ok (.istore_n 3, 1) := by decide +kernel
theorem dX6_turn_108 : decode cX6_turn 108 = .ok (.iload 5, 2) := by decide +kernel
theorem dX6_turn_110 : decode cX6_turn 110 = .ok (.invokestatic 177, 3) := by decide +kernel
theorem dX6_turn_113 : decode cX6_turn 113 = .ok (.istore 4, 2) := by decide +kernel
theorem dX6_turn_115 : decode cX6_turn 115 = .ok (.iinc 5 1, 3) := by decide +kernel
theorem dX6_turn_118 : decode cX6_turn 118 = .ok (.goto (-81), 3) := by decide +kernel
theorem dX6_turn_121 : decode cX6_turn 121 = .ok (.iload_n 1, 1) := by decide +kernel
theorem dX6_turn_122 : decode cX6_turn 122 = .ok (.ifCond .ne 7, 3) := by decide +kernel
theorem dX6_turn_125 : decode cX6_turn 125 = .ok (.iload_n 3, 1) := by decide +kernel
theorem dX6_turn_126 : decode cX6_turn 126 = .ok (.goto 5, 3) := by decide +kernel
theorem dX6_turn_129 : decode cX6_turn 129 = .ok (.iload 4, 2) := by decide +kernel
theorem dX6_turn_131 : decode cX6_turn 131 = .ok (.ireturn, 1) := by decide +kernel
set_option maxRecDepth 20000 in
theorem ggX6_admittedBehind_X6_keeps : GoodIn wsX6_admittedBehind wsX6_keeps := goodIn_r _ [6, 7, 8, 9, 1, 10, 68, 69, 70, 71, 72, 73, 74, 75, 76, 77, 78, 79, 80, 81, 82, 83, 84, 85, 86, 87, 88, 89, 90, 91, 92, 93, 94, 95, 96, 97, 98, 99, 100, 101, 102, 103, 104, 105] (by decide +kernel) (by decide +kernel)
set_option maxRecDepth 20000 in
theorem gX6_admittedBehind_X6_keeps : GoodIn wsX6_admittedBehind (wsV RX6 216 RX6 yX6_keeps wsX6_keeps) := goodIn_app (goodIn_of _ (by decide +kernel)) ggX6_admittedBehind_X6_keeps
set_option maxRecDepth 20000 in
theorem ggX6_admittedBehind_X6_goes : GoodIn wsX6_admittedBehind wsX6_goes := goodIn_r _ [14, 15, 16, 17, 5, 18, 10, 9, 1, 8, 19, 20, 21, 22, 23, 24, 25, 26, 27, 28, 29, 30, 31, 32, 33, 34, 35, 36, 37, 38, 39, 40, 41, 42, 43, 44, 45, 46, 47, 48, 49, 50, 51, 52, 53, 54, 55, 56, 57, 58, 59, 60, 61, 62, 63, 68, 69, 70, 71, 72, 73, 74, 75, 76, 77, 78, 79, 80, 81, 82, 83, 84, 85, 86, 87, 88, 89, 90, 91, 92, 93, 94, 95, 96, 97, 98, 99, 100, 101, 102, 103, 104, 105] (by decide +kernel) (by decide +kernel)
set_option maxRecDepth 20000 in
theorem gX6_admittedBehind_X6_goes : GoodIn wsX6_admittedBehind (wsV RX6 219 RX6 yX6_goes wsX6_goes) := goodIn_app (goodIn_of _ (by decide +kernel)) ggX6_admittedBehind_X6_goes
set_option maxRecDepth 20000 in
theorem ggX6_admittedBehind_X6_onesOf : GoodIn wsX6_admittedBehind wsX6_onesOf := goodIn_r _ [47] (by decide +kernel) (by decide +kernel)
set_option maxRecDepth 20000 in
theorem gX6_admittedBehind_X6_onesOf : GoodIn wsX6_admittedBehind (va_wsS RX6 177 yX6_onesOf wsX6_onesOf) := goodIn_app (goodIn_of _ (by decide +kernel)) ggX6_admittedBehind_X6_onesOf
set_option maxRecDepth 20000 in
theorem ggX6_admittedBehind_X6_lays : GoodIn wsX6_admittedBehind wsX6_lays := goodIn_r _ [67, 8, 7, 9, 1, 10, 68, 69, 70, 71, 72, 73, 74, 75, 76, 77, 78, 79, 80, 81, 82, 83, 84, 85, 86, 87, 88, 89, 90, 91, 92, 93, 94, 95, 96, 97, 98, 99, 100, 101, 102, 103, 104, 105] (by decide +kernel) (by decide +kernel)
set_option maxRecDepth 20000 in
theorem gX6_admittedBehind_X6_lays : GoodIn wsX6_admittedBehind (wsV RX6 222 RX6 yX6_lays wsX6_lays) := goodIn_app (goodIn_of _ (by decide +kernel)) ggX6_admittedBehind_X6_lays
theorem dX6_admittedBehind_0 : decode cX6_admittedBehind 0 = .ok (.aload_n 0, 1) := by decide +kernel
theorem dX6_admittedBehind_1 : decode cX6_admittedBehind 1 = .ok (.invokevirtual 216, 3) := by decide +kernel
theorem dX6_admittedBehind_4 : decode cX6_admittedBehind 4 = .ok (.aload_n 0, 1) := by decide +kernel
theorem dX6_admittedBehind_5 : decode cX6_admittedBehind 5 = .ok (.iload_n 1, 1) := by decide +kernel
theorem dX6_admittedBehind_6 : decode cX6_admittedBehind 6 = .ok (.invokevirtual 219, 3) := by decide +kernel
theorem dX6_admittedBehind_9 : decode cX6_admittedBehind 9 = .ok (.aload_n 0, 1) := by decide +kernel
theorem dX6_admittedBehind_10 : decode cX6_admittedBehind 10 = .ok (.getfield 109, 3) := by decide +kernel
theorem dX6_admittedBehind_13 : decode cX6_admittedBehind 13 = .ok (.invokestatic 177, 3) := by decide +kernel
theorem dX6_admittedBehind_16 : decode cX6_admittedBehind 16 = .ok (.istore_n 2, 1) := by decide +kernel
theorem dX6_admittedBehind_17 : decode cX6_admittedBehind 17 = .ok (.aload_n 0, 1) := by decide +kernel
theorem dX6_admittedBehind_18 : decode cX6_admittedBehind 18 = .ok (.invokevirtual 222, 3) := by decide +kernel
theorem dX6_admittedBehind_21 : decode cX6_admittedBehind 21 = .ok (.iload_n 2, 1) := by decide +kernel
theorem dX6_admittedBehind_22 : decode cX6_admittedBehind 22 = .ok (.ireturn, 1) := by decide +kernel
set_option maxRecDepth 20000 in
theorem ggX6_gallant_X6_in : GoodIn wsX6_gallant wsX6_in := goodIn_r _ [5] (by decide +kernel) (by decide +kernel)
set_option maxRecDepth 20000 in
theorem gX6_gallant_X6_in : GoodIn wsX6_gallant (va_wsS RX6 81 yX6_in wsX6_in) := goodIn_app (goodIn_of _ (by decide +kernel)) ggX6_gallant_X6_in
set_option maxRecDepth 20000 in
theorem ggX6_gallant_X6_admittedBehind : GoodIn wsX6_gallant wsX6_admittedBehind := goodIn_r _ [9, 10, 11, 12, 13, 4, 14, 15, 16, 17, 18, 19, 20, 21, 22, 23, 24, 25, 26, 27, 28, 29, 30, 2, 3, 5, 31, 32, 33, 34, 35, 36, 37, 1, 38, 39, 40, 41, 42, 43, 44, 45, 46, 47, 48, 49, 50, 51, 52, 53, 54, 55, 56, 57, 58, 59, 60, 61, 62, 63, 64, 65, 66, 67, 68, 69, 70, 71, 72, 73, 74, 75, 76, 77, 78, 79, 80, 81, 82, 83, 84, 85, 86, 87, 88, 89, 90, 91, 92, 93, 94, 95, 96, 97, 98, 99, 100, 101, 102, 103, 104, 105, 106, 107, 108, 109] (by decide +kernel) (by decide +kernel)
set_option maxRecDepth 20000 in
theorem gX6_gallant_X6_admittedBehind : GoodIn wsX6_gallant (wsV RX6 234 RX6 yX6_admittedBehind wsX6_admittedBehind) := goodIn_app (goodIn_of _ (by decide +kernel)) ggX6_gallant_X6_admittedBehind
theorem dX6_gallant_0 : decode cX6_gallant 0 = .ok (.iload_n 1, 1) := by decide +kernel
theorem dX6_gallant_1 : decode cX6_gallant 1 = .ok (.iconst 0, 1) := by decide +kernel
theorem dX6_gallant_2 : decode cX6_gallant 2 = .ok (.bipush 40, 2) := by decide +kernel
theorem dX6_gallant_4 : decode cX6_gallant 4 = .ok (.invokestatic 81, 3) := by decide +kernel
theorem dX6_gallant_7 : decode cX6_gallant 7 = .ok (.ifCond .eq 12, 3) := by decide +kernel
theorem dX6_gallant_10 : decode cX6_gallant 10 = .ok (.iload_n 2, 1) := by decide +kernel
theorem dX6_gallant_11 : decode cX6_gallant 11 = .ok (.iconst 0, 1) := by decide +kernel
theorem dX6_gallant_12 : decode cX6_gallant 12 = .ok (.iconst 1, 1) := by decide +kernel
theorem dX6_gallant_13 : decode cX6_gallant 13 = .ok (.invokestatic 81, 3) := by decide +kernel
theorem dX6_gallant_16 : decode cX6_gallant 16 = .ok (.ifCond .ne 6, 3) := by decide +kernel
theorem dX6_gallant_19 : decode cX6_gallant 19 = .ok (.bipush (-2), 2) := by decide +kernel
theorem dX6_gallant_21 : decode cX6_gallant 21 = .ok (.ireturn, 1) := by decide +kernel
theorem dX6_gallant_22 : decode cX6_gallant 22 = .ok (.iconst (-1), 1) := by decide +kernel
theorem dX6_gallant_23 : decode cX6_gallant 23 = .ok (.istore_n 3, 1) := by decide +kernel
theorem dX6_gallant_24 : decode cX6_gallant 24 = .ok (.aload_n 0, 1) := by decide +kernel
theorem dX6_gallant_25 : decode cX6_gallant 25 = .ok (.iload_n 1, 1) := by decide +kernel
theorem dX6_gallant_26 : decode cX6_gallant 26 = .ok (.invokevirtual 234, 3) := by decide +kernel
theorem dX6_gallant_29 : decode cX6_gallant 29 = .ok (.istore 4, 2) := by decide +kernel
theorem dX6_gallant_31 : decode cX6_gallant 31 = .ok (.iconst 0, 1) := by decide +kernel
theorem dX6_gallant_32 : decode cX6_gallant 32 = .ok (.istore 5, 2) := by decide +kernel
theorem dX6_gallant_34 : decode cX6_gallant 34 = .ok (.iload 5, 2) := by decide +kernel
theorem dX6_gallant_36 : decode cX6_gallant 36 = .ok (.bipush 6, 2) := by decide +kernel
theorem dX6_gallant_38 : decode cX6_gallant 38 = .ok (.if_icmp .ge 73, 3) := by decide +kernel
theorem dX6_gallant_41 : decode cX6_gallant 41 = .ok (.aload_n 0, 1) := by decide +kernel
theorem dX6_gallant_42 : decode cX6_gallant 42 = .ok (.getfield 25, 3) := by decide +kernel
theorem dX6_gallant_45 : decode cX6_gallant 45 = .ok (.iload 5, 2) := by decide +kernel
theorem dX6_gallant_47 : decode cX6_gallant 47 = .ok (.iaload, 1) := by decide +kernel
theorem dX6_gallant_48 : decode cX6_gallant 48 = .ok (.istore 6, 2) := by decide +kernel
theorem dX6_gallant_50 : decode cX6_gallant 50 = .ok (.aload_n 0, 1) := by decide +kernel
theorem dX6_gallant_51 : decode cX6_gallant 51 = .ok (.getfield 25, 3) := by decide +kernel
theorem dX6_gallant_54 : decode cX6_gallant 54 = .ok (.iload 5, 2) := by decide +kernel
theorem dX6_gallant_56 : decode cX6_gallant 56 = .ok (.bipush 99, 2) := by decide +kernel
theorem dX6_gallant_58 : decode cX6_gallant 58 = .ok (.iastore, 1) := by decide +kernel
theorem dX6_gallant_59 : decode cX6_gallant 59 = .ok (.aload_n 0, 1) := by decide +kernel
theorem dX6_gallant_60 : decode cX6_gallant 60 = .ok (.iload_n 1, 1) := by decide +kernel
theorem dX6_gallant_61 : decode cX6_gallant 61 = .ok (.invokevirtual 234, 3) := by decide +kernel
theorem dX6_gallant_64 : decode cX6_gallant 64 = .ok (.istore 7, 2) := by decide +kernel
theorem dX6_gallant_66 : decode cX6_gallant 66 = .ok (.aload_n 0, 1) := by decide +kernel
theorem dX6_gallant_67 : decode cX6_gallant 67 = .ok (.getfield 25, 3) := by decide +kernel
theorem dX6_gallant_70 : decode cX6_gallant 70 = .ok (.iload 5, 2) := by decide +kernel
theorem dX6_gallant_72 : decode cX6_gallant 72 = .ok (.iload 6, 2) := by decide +kernel
theorem dX6_gallant_74 : decode cX6_gallant 74 = .ok (.iastore, 1) := by decide +kernel
theorem dX6_gallant_75 : decode cX6_gallant 75 = .ok (.iload 7, 2) := by decide +kernel
theorem dX6_gallant_77 : decode cX6_gallant 77 = .ok (.iload 4, 2) := by decide +kernel
theorem dX6_gallant_79 : decode cX6_gallant 79 = .ok (.if_icmp .le 8, 3) := by decide +kernel
theorem dX6_gallant_82 : decode cX6_gallant 82 = .ok (.iload 5, 2) := by decide +kernel
theorem dX6_gallant_84 : decode cX6_gallant 84 = .ok (.goto 4, 3) := by decide +kernel
theorem dX6_gallant_87 : decode cX6_gallant 87 = .ok (.iload_n 3, 1) := by decide +kernel
theorem dX6_gallant_88 : decode cX6_gallant 88 = .ok (.istore_n 3, 1) := by decide +kernel
theorem dX6_gallant_89 : decode cX6_gallant 89 = .ok (.iload 7, 2) := by decide +kernel
theorem dX6_gallant_91 : decode cX6_gallant 91 = .ok (.iload 4, 2) := by decide +kernel
theorem dX6_gallant_93 : decode cX6_gallant 93 = .ok (.if_icmp .le 8, 3) := by decide +kernel
theorem dX6_gallant_96 : decode cX6_gallant 96 = .ok (.iload 7, 2) := by decide +kernel
theorem dX6_gallant_98 : decode cX6_gallant 98 = .ok (.goto 5, 3) := by decide +kernel
theorem dX6_gallant_101 : decode cX6_gallant 101 = .ok (.iload 4, 2) := by decide +kernel
theorem dX6_gallant_103 : decode cX6_gallant 103 = .ok (.istore 4, 2) := by decide +kernel
theorem dX6_gallant_105 : decode cX6_gallant 105 = .ok (.iinc 5 1, 3) := by decide +kernel
theorem dX6_gallant_108 : decode cX6_gallant 108 = .ok (.goto (-74), 3) := by decide +kernel
theorem dX6_gallant_111 : decode cX6_gallant 111 = .ok (.iload_n 2, 1) := by decide +kernel
theorem dX6_gallant_112 : decode cX6_gallant 112 = .ok (.ifCond .ne 7, 3) := by decide +kernel
theorem dX6_gallant_115 : decode cX6_gallant 115 = .ok (.iload_n 3, 1) := by decide +kernel
theorem dX6_gallant_116 : decode cX6_gallant 116 = .ok (.goto 5, 3) := by decide +kernel
theorem dX6_gallant_119 : decode cX6_gallant 119 = .ok (.iload 4, 2) := by decide +kernel
theorem dX6_gallant_121 : decode cX6_gallant 121 = .ok (.ireturn, 1) := by decide +kernel
set_option maxRecDepth 20000 in
theorem ggX6_castBy_X6_within : GoodIn wsX6_castBy wsX6_within := goodIn_r _ [6] (by decide +kernel) (by decide +kernel)
set_option maxRecDepth 20000 in
theorem gX6_castBy_X6_within : GoodIn wsX6_castBy (va_wsS RX6 85 yX6_within wsX6_within) := goodIn_app (goodIn_of _ (by decide +kernel)) ggX6_castBy_X6_within
set_option maxRecDepth 20000 in
theorem ggX6_castBy_X6_can : GoodIn wsX6_castBy wsX6_can := goodIn_r _ [10, 11, 12, 13, 14, 5, 15, 16, 17, 18, 19, 20, 21, 22, 23, 3, 4, 6, 76, 77, 78, 79, 80, 81, 82, 83, 84, 85, 86, 87, 88, 89, 90, 91, 92, 93, 94, 95, 96, 97, 98, 99, 100, 101, 102, 103, 104, 105, 106, 107, 108, 109, 110, 111, 112, 113] (by decide +kernel) (by decide +kernel)
set_option maxRecDepth 20000 in
theorem gX6_castBy_X6_can : GoodIn wsX6_castBy (wsV RX6 231 RX6 yX6_can wsX6_can) := goodIn_app (goodIn_of _ (by decide +kernel)) ggX6_castBy_X6_can
set_option maxRecDepth 20000 in
theorem ggX6_castBy_X6_dropOf : GoodIn wsX6_castBy wsX6_dropOf := goodIn_r _ [27, 20, 28, 29, 30, 5, 31, 11, 32, 33, 34, 35, 36, 37, 38, 39, 40, 41, 42, 43, 12, 13, 14, 15, 16, 17, 18, 19, 21, 22, 23, 3, 4, 6, 44, 45, 46, 47, 48, 49, 50, 51, 52, 53, 54, 55, 56, 57, 58, 59, 60, 61, 62, 76, 77, 78, 79, 80, 81, 82, 83, 84, 85, 86, 87, 88, 89, 90, 91, 92, 93, 94, 95, 96, 97, 98, 99, 100, 101, 102, 103, 104, 105, 106, 107, 108, 109, 110, 111, 112, 113] (by decide +kernel) (by decide +kernel)
set_option maxRecDepth 20000 in
theorem gX6_castBy_X6_dropOf : GoodIn wsX6_castBy (wsV RX6 210 RX6 yX6_dropOf wsX6_dropOf) := goodIn_app (goodIn_of _ (by decide +kernel)) ggX6_castBy_X6_dropOf
set_option maxRecDepth 20000 in
theorem ggX6_castBy_X6_hourOf : GoodIn wsX6_castBy wsX6_hourOf := goodIn_r _ [66, 42, 20, 43, 11, 16, 17, 18, 5, 19, 21, 22, 23, 3, 4, 6, 67, 68, 69, 70, 71, 72, 73, 74, 75, 32, 33, 37, 38, 39, 40, 41, 34, 35, 36, 12, 13, 14, 15, 44, 45, 46, 47, 48, 49, 50, 51, 52, 53, 54, 55, 76, 77, 78, 79, 80, 81, 82, 83, 84, 85, 86, 87, 88, 89, 90, 91, 92, 93, 94, 95, 96, 97, 98, 99, 100, 101, 102, 103, 104, 105, 106, 107, 108, 109, 110, 111, 112, 113] (by decide +kernel) (by decide +kernel)
set_option maxRecDepth 20000 in
theorem gX6_castBy_X6_hourOf : GoodIn wsX6_castBy (wsV RX6 213 RX6 yX6_hourOf wsX6_hourOf) := goodIn_app (goodIn_of _ (by decide +kernel)) ggX6_castBy_X6_hourOf
theorem dX6_castBy_0 : decode cX6_castBy 0 = .ok (.iconst 1, 1) := by decide +kernel
theorem dX6_castBy_1 : decode cX6_castBy 1 = .ok (.istore_n 3, 1) := by decide +kernel
theorem dX6_castBy_2 : decode cX6_castBy 2 = .ok (.iconst 1, 1) := by decide +kernel
theorem dX6_castBy_3 : decode cX6_castBy 3 = .ok (.istore 4, 2) := by decide +kernel
theorem dX6_castBy_5 : decode cX6_castBy 5 = .ok (.iload 4, 2) := by decide +kernel
theorem dX6_castBy_7 : decode cX6_castBy 7 = .ok (.iload_n 2, 1) := by decide +kernel
theorem dX6_castBy_8 : decode cX6_castBy 8 = .ok (.if_icmp .ge 14, 3) := by decide +kernel
theorem dX6_castBy_11 : decode cX6_castBy 11 = .ok (.iload_n 3, 1) := by decide +kernel
theorem dX6_castBy_12 : decode cX6_castBy 12 = .ok (.bipush 7, 2) := by decide +kernel
theorem dX6_castBy_14 : decode cX6_castBy 14 = .ok (.imul, 1) := by decide +kernel
theorem dX6_castBy_15 : decode cX6_castBy 15 = .ok (.istore_n 3, 1) := by decide +kernel
theorem dX6_castBy_16 : decode cX6_castBy 16 = .ok (.iinc 4 1, 3) := by decide +kernel
theorem dX6_castBy_19 : decode cX6_castBy 19 = .ok (.goto (-14), 3) := by decide +kernel
theorem dX6_castBy_22 : decode cX6_castBy 22 = .ok (.iload_n 1, 1) := by decide +kernel
theorem dX6_castBy_23 : decode cX6_castBy 23 = .ok (.istore 4, 2) := by decide +kernel
theorem dX6_castBy_25 : decode cX6_castBy 25 = .ok (.iconst 0, 1) := by decide +kernel
theorem dX6_castBy_26 : decode cX6_castBy 26 = .ok (.istore 5, 2) := by decide +kernel
theorem dX6_castBy_28 : decode cX6_castBy 28 = .ok (.iconst 1, 1) := by decide +kernel
theorem dX6_castBy_29 : decode cX6_castBy 29 = .ok (.istore 6, 2) := by decide +kernel
theorem dX6_castBy_31 : decode cX6_castBy 31 = .ok (.iconst 0, 1) := by decide +kernel
theorem dX6_castBy_32 : decode cX6_castBy 32 = .ok (.istore 7, 2) := by decide +kernel
theorem dX6_castBy_34 : decode cX6_castBy 34 = .ok (.aload_n 0, 1) := by decide +kernel
theorem dX6_castBy_35 : decode cX6_castBy 35 = .ok (.iconst 0, 1) := by decide +kernel
theorem dX6_castBy_36 : decode cX6_castBy 36 = .ok (.putfield 237, 3) := by decide +kernel
theorem dX6_castBy_39 : decode cX6_castBy 39 = .ok (.iconst 0, 1) := by decide +kernel
theorem dX6_castBy_40 : decode cX6_castBy 40 = .ok (.istore 8, 2) := by decide +kernel
theorem dX6_castBy_42 : decode cX6_castBy 42 = .ok (.iload 8, 2) := by decide +kernel
theorem dX6_castBy_44 : decode cX6_castBy 44 = .ok (.iload_n 2, 1) := by decide +kernel
theorem dX6_castBy_45 : decode cX6_castBy 45 = .ok (.if_icmp .ge 162, 3) := by decide +kernel
theorem dX6_castBy_48 : decode cX6_castBy 48 = .ok (.iload 6, 2) := by decide +kernel
theorem dX6_castBy_50 : decode cX6_castBy 50 = .ok (.ifCond .eq 157, 3) := by decide +kernel
theorem dX6_castBy_53 : decode cX6_castBy 53 = .ok (.iload 4, 2) := by decide +kernel
theorem dX6_castBy_55 : decode cX6_castBy 55 = .ok (.iload_n 3, 1) := by decide +kernel
theorem dX6_castBy_56 : decode cX6_castBy 56 = .ok (.idiv, 1) := by decide +kernel
theorem dX6_castBy_57 : decode cX6_castBy 57 = .ok (.iconst 0, 1) := by decide +kernel
theorem dX6_castBy_58 : decode cX6_castBy 58 = .ok (.bipush 6, 2) := by decide +kernel
theorem dX6_castBy_60 : decode cX6_castBy 60 = .ok (.invokestatic 85, 3) := by decide +kernel
theorem dX6_castBy_63 : decode cX6_castBy 63 = .ok (.iconst 1, 1) := by decide +kernel
theorem dX6_castBy_64 : decode cX6_castBy 64 = .ok (.isub, 1) := by decide +kernel
theorem dX6_castBy_65 : decode cX6_castBy 65 = .ok (.istore 9, 2) := by decide +kernel
theorem dX6_castBy_67 : decode cX6_castBy 67 = .ok (.iload 4, 2) := by decide +kernel
theorem dX6_castBy_69 : decode cX6_castBy 69 = .ok (.iload_n 3, 1) := by decide +kernel
theorem dX6_castBy_70 : decode cX6_castBy 70 = .ok (.irem, 1) := by decide +kernel
theorem dX6_castBy_71 : decode cX6_castBy 71 = .ok (.istore 4, 2) := by decide +kernel
theorem dX6_castBy_73 : decode cX6_castBy 73 = .ok (.iload_n 3, 1) := by decide +kernel
theorem dX6_castBy_74 : decode cX6_castBy 74 = .ok (.iconst 1, 1) := by decide +kernel
theorem dX6_castBy_75 : decode cX6_castBy 75 = .ok (.if_icmp .le 10, 3) := by decide +kernel
theorem dX6_castBy_78 : decode cX6_castBy 78 = .ok (.iload_n 3, 1) := by decide +kernel
theorem dX6_castBy_79 : decode cX6_castBy 79 = .ok (.bipush 7, 2) := by decide +kernel
theorem dX6_castBy_81 : decode cX6_castBy 81 = .ok (.idiv, 1) := by decide +kernel
theorem dX6_castBy_82 : decode cX6_castBy 82 = .ok (.goto 4, 3) := by decide +kernel
theorem dX6_castBy_85 : decode cX6_castBy 85 = .ok (.iconst 1, 1) := by decide +kernel
theorem dX6_castBy_86 : decode cX6_castBy 86 = .ok (.istore_n 3, 1) := by decide +kernel
theorem dX6_castBy_87 : decode cX6_castBy 87 = .ok (.iload 7, 2) := by decide +kernel
theorem dX6_castBy_89 : decode cX6_castBy 89 = .ok (.iload 9, 2) := by decide +kernel
theorem dX6_castBy_91 : decode cX6_castBy 91 = .ok (.iconst (-1), 1) := by decide +kernel
theorem dX6_castBy_92 : decode cX6_castBy 92 = .ok (.if_icmp .ne 7, 3) := by decide +kernel
theorem dX6_castBy_95 : decode cX6_castBy 95 = .ok (.iconst 1, 1) := by decide +kernel
theorem dX6_castBy_96 : decode cX6_castBy 96 = .ok (.goto 4, 3) := by decide +kernel
theorem dX6_castBy_99 : decode cX6_castBy 99 = .ok (.iconst 0, 1) := by decide +kernel
theorem dX6_castBy_100 : decode cX6_castBy 100 = .ok (.ior, 1) := by decide +kernel
theorem dX6_castBy_101 : decode cX6_castBy 101 = .ok (.istore 7, 2) := by decide +kernel
theorem dX6_castBy_103 : decode cX6_castBy 103 = .ok (.iload 9, 2) := by decide +kernel
theorem dX6_castBy_105 : decode cX6_castBy 105 = .ok (.iconst (-1), 1) := by decide +kernel
theorem dX6_castBy_106 : decode cX6_castBy 106 = .ok (.if_icmp .ne 9, 3) := by decide +kernel
theorem dX6_castBy_109 : decode cX6_castBy 109 = .ok (.iconst 1, 1) := by decide +kernel
theorem dX6_castBy_110 : decode cX6_castBy 110 = .ok (.istore 6, 2) := by decide +kernel
theorem dX6_castBy_112 : decode cX6_castBy 112 = .ok (.goto 89, 3) := by decide +kernel
theorem dX6_castBy_115 : decode cX6_castBy 115 = .ok (.iload 7, 2) := by decide +kernel
theorem dX6_castBy_117 : decode cX6_castBy 117 = .ok (.ifCond .ne 26, 3) := by decide +kernel
theorem dX6_castBy_120 : decode cX6_castBy 120 = .ok (.iload 9, 2) := by decide +kernel
theorem dX6_castBy_122 : decode cX6_castBy 122 = .ok (.aload_n 0, 1) := by decide +kernel
theorem dX6_castBy_123 : decode cX6_castBy 123 = .ok (.getfield 78, 3) := by decide +kernel
theorem dX6_castBy_126 : decode cX6_castBy 126 = .ok (.if_icmp .ge 17, 3) := by decide +kernel
theorem dX6_castBy_129 : decode cX6_castBy 129 = .ok (.iload 5, 2) := by decide +kernel
theorem dX6_castBy_131 : decode cX6_castBy 131 = .ok (.iload 9, 2) := by decide +kernel
theorem dX6_castBy_133 : decode cX6_castBy 133 = .ok (.ishr, 1) := by decide +kernel
theorem dX6_castBy_134 : decode cX6_castBy 134 = .ok (.iconst 1, 1) := by decide +kernel
theorem dX6_castBy_135 : decode cX6_castBy 135 = .ok (.iand, 1) := by decide +kernel
theorem dX6_castBy_136 : decode cX6_castBy 136 = .ok (.ifCond .ne 7, 3) := by decide +kernel
theorem dX6_castBy_139 : decode cX6_castBy 139 = .ok (.iconst 1, 1) := by decide +kernel
theorem dX6_castBy_140 : decode cX6_castBy 140 = .ok (.goto 4, 3) := by decide +kernel
theorem dX6_castBy_143 : decode cX6_castBy 143 = .ok (.iconst 0, 1) := by decide +kernel
theorem dX6_castBy_144 : decode cX6_castBy 144 = .ok (.istore 6, 2) := by decide +kernel
theorem dX6_castBy_146 : decode cX6_castBy 146 = .ok (.iload 6, 2) := by decide +kernel
theorem dX6_castBy_148 : decode cX6_castBy 148 = .ok (.ifCond .eq 11, 3) := by decide +kernel
theorem dX6_castBy_151 : decode cX6_castBy 151 = .ok (.aload_n 0, 1) := by decide +kernel
theorem dX6_castBy_152 : decode cX6_castBy 152 = .ok (.iload 9, 2) := by decide +kernel
theorem dX6_castBy_154 : decode cX6_castBy 154 = .ok (.invokevirtual 231, 3) := by decide +kernel
theorem dX6_castBy_157 : decode cX6_castBy 157 = .ok (.istore 6, 2) := by decide +kernel
theorem dX6_castBy_159 : decode cX6_castBy 159 = .ok (.iload 6, 2) := by decide +kernel
theorem dX6_castBy_161 : decode cX6_castBy 161 = .ok (.ifCond .eq 40, 3) := by decide +kernel
theorem dX6_castBy_164 : decode cX6_castBy 164 = .ok (.aload_n 0, 1) := by decide +kernel
theorem dX6_castBy_165 : decode cX6_castBy 165 = .ok (.iload 9, 2) := by decide +kernel
theorem dX6_castBy_167 : decode cX6_castBy 167 = .ok (.invokevirtual 210, 3) := by decide +kernel
theorem dX6_castBy_170 : decode cX6_castBy 170 = .ok (.pop, 1) := by decide +kernel
theorem dX6_castBy_171 : decode cX6_castBy 171 = .ok (.aload_n 0, 1) := by decide +kernel
theorem dX6_castBy_172 : decode cX6_castBy 172 = .ok (.invokevirtual 213, 3) := by decide +kernel
theorem dX6_castBy_175 : decode cX6_castBy 175 = .ok (.pop, 1) := by decide +kernel
theorem dX6_castBy_176 : decode cX6_castBy 176 = .ok (.iload 5, 2) := by decide +kernel
theorem dX6_castBy_178 : decode cX6_castBy 178 = .ok (.iconst 1, 1) := by decide +kernel
theorem dX6_castBy_179 : decode cX6_castBy 179 = .ok (.iload 9, 2) := by decide +kernel
theorem dX6_castBy_181 : decode cX6_castBy 181 = .ok (.ishl, 1) := by decide +kernel
theorem dX6_castBy_182 : decode cX6_castBy 182 = .ok (.ior, 1) := by decide +kernel
theorem dX6_castBy_183 : decode cX6_castBy 183 = .ok (.istore 5, 2) := by decide +kernel
theorem dX6_castBy_185 : decode cX6_castBy 185 = .ok (.aload_n 0, 1) := by decide +kernel
theorem dX6_castBy_186 : decode cX6_castBy 186 = .ok (.bipush 10, 2) := by decide +kernel
theorem dX6_castBy_188 : decode cX6_castBy 188 = .ok (.aload_n 0, 1) := by decide +kernel
theorem dX6_castBy_189 : decode cX6_castBy 189 = .ok (.getfield 237, 3) := by decide +kernel
theorem dX6_castBy_192 : decode cX6_castBy 192 = .ok (.imul, 1) := by decide +kernel
theorem dX6_castBy_193 : decode cX6_castBy 193 = .ok (.iload 9, 2) := by decide +kernel
theorem dX6_castBy_195 : decode cX6_castBy 195 = .ok (.iadd, 1) := by decide +kernel
theorem dX6_castBy_196 : decode cX6_castBy 196 = .ok (.iconst 1, 1) := by decide +kernel
theorem dX6_castBy_197 : decode cX6_castBy 197 = .ok (.iadd, 1) := by decide +kernel
theorem dX6_castBy_198 : decode cX6_castBy 198 = .ok (.putfield 237, 3) := by decide +kernel
theorem dX6_castBy_201 : decode cX6_castBy 201 = .ok (.iinc 8 1, 3) := by decide +kernel
theorem dX6_castBy_204 : decode cX6_castBy 204 = .ok (.goto (-162), 3) := by decide +kernel
theorem dX6_castBy_207 : decode cX6_castBy 207 = .ok (.iload 6, 2) := by decide +kernel
theorem dX6_castBy_209 : decode cX6_castBy 209 = .ok (.ireturn, 1) := by decide +kernel
set_option maxRecDepth 20000 in
theorem ggX6_cast_X6_in : GoodIn wsX6_cast wsX6_in := goodIn_r _ [7] (by decide +kernel) (by decide +kernel)
set_option maxRecDepth 20000 in
theorem gX6_cast_X6_in : GoodIn wsX6_cast (va_wsS RX6 81 yX6_in wsX6_in) := goodIn_app (goodIn_of _ (by decide +kernel)) ggX6_cast_X6_in
set_option maxRecDepth 20000 in
theorem ggX6_cast_X6_keeps : GoodIn wsX6_cast wsX6_keeps := goodIn_r _ [11, 12, 13, 14, 1, 15, 99, 100, 101, 102, 103, 104, 105, 106, 107, 108, 109, 110, 111, 112, 113, 114, 115, 116, 117, 118, 119, 120, 121, 122, 123, 124, 125, 126, 127, 128, 129, 130, 131, 132, 133, 134, 135, 136] (by decide +kernel) (by decide +kernel)
set_option maxRecDepth 20000 in
theorem gX6_cast_X6_keeps : GoodIn wsX6_cast (wsV RX6 216 RX6 yX6_keeps wsX6_keeps) := goodIn_app (goodIn_of _ (by decide +kernel)) ggX6_cast_X6_keeps
set_option maxRecDepth 20000 in
theorem ggX6_cast_X6_castBy : GoodIn wsX6_cast wsX6_castBy := goodIn_r _ [19, 3, 20, 21, 22, 6, 23, 24, 25, 26, 27, 13, 28, 29, 30, 31, 32, 33, 34, 35, 14, 4, 5, 7, 36, 37, 38, 39, 40, 41, 42, 43, 44, 45, 46, 47, 48, 49, 50, 51, 52, 53, 15, 1, 54, 55, 56, 57, 58, 59, 60, 61, 62, 63, 64, 65, 66, 67, 68, 69, 70, 71, 72, 73, 74, 75, 76, 77, 78, 79, 80, 81, 82, 83, 84, 85, 99, 100, 101, 102, 103, 104, 105, 106, 107, 108, 109, 110, 111, 112, 113, 114, 115, 116, 117, 118, 119, 120, 121, 122, 123, 124, 125, 126, 127, 128, 129, 130, 131, 132, 133, 134, 135, 136] (by decide +kernel) (by decide +kernel)
set_option maxRecDepth 20000 in
theorem gX6_cast_X6_castBy : GoodIn wsX6_cast (wsV RX6 240 RX6 yX6_castBy wsX6_castBy) := goodIn_app (goodIn_of _ (by decide +kernel)) ggX6_cast_X6_castBy
set_option maxRecDepth 20000 in
theorem ggX6_cast_X6_goes : GoodIn wsX6_cast wsX6_goes := goodIn_r _ [89, 73, 74, 75, 6, 76, 15, 14, 1, 13, 32, 33, 34, 35, 4, 5, 7, 21, 22, 23, 77, 78, 79, 80, 81, 82, 83, 84, 85, 44, 45, 49, 50, 51, 52, 53, 46, 47, 48, 28, 29, 30, 31, 54, 55, 56, 57, 58, 59, 60, 61, 62, 63, 64, 65, 99, 100, 101, 102, 103, 104, 105, 106, 107, 108, 109, 110, 111, 112, 113, 114, 115, 116, 117, 118, 119, 120, 121, 122, 123, 124, 125, 126, 127, 128, 129, 130, 131, 132, 133, 134, 135, 136] (by decide +kernel) (by decide +kernel)
set_option maxRecDepth 20000 in
theorem gX6_cast_X6_goes : GoodIn wsX6_cast (wsV RX6 219 RX6 yX6_goes wsX6_goes) := goodIn_app (goodIn_of _ (by decide +kernel)) ggX6_cast_X6_goes
set_option maxRecDepth 20000 in
theorem ggX6_cast_X6_verdictOf : GoodIn wsX6_cast wsX6_verdictOf := goodIn_r _ [93, 94, 99, 100, 101, 102, 103, 104, 105, 106, 107, 108, 109, 110, 111, 112, 113, 114, 115, 116, 117, 118, 119, 120, 121, 122, 123, 124, 125, 126, 127, 128, 129, 130, 131, 132, 133, 134, 135, 136] (by decide +kernel) (by decide +kernel)
set_option maxRecDepth 20000 in
theorem gX6_cast_X6_verdictOf : GoodIn wsX6_cast (wsV RX6 112 RX6 yX6_verdictOf wsX6_verdictOf) := goodIn_app (goodIn_of _ (by decide +kernel)) ggX6_cast_X6_verdictOf
set_option maxRecDepth 20000 in
theorem ggX6_cast_X6_lays : GoodIn wsX6_cast wsX6_lays := goodIn_r _ [98, 13, 12, 14, 1, 15, 99, 100, 101, 102, 103, 104, 105, 106, 107, 108, 109, 110, 111, 112, 113, 114, 115, 116, 117, 118, 119, 120, 121, 122, 123, 124, 125, 126, 127, 128, 129, 130, 131, 132, 133, 134, 135, 136] (by decide +kernel) (by decide +kernel)
set_option maxRecDepth 20000 in
theorem gX6_cast_X6_lays : GoodIn wsX6_cast (wsV RX6 222 RX6 yX6_lays wsX6_lays) := goodIn_app (goodIn_of _ (by decide +kernel)) ggX6_cast_X6_lays
theorem dX6_cast_0 : decode cX6_cast 0 = .ok (.iload_n 1, 1) := by decide +kernel
theorem dX6_cast_1 : decode cX6_cast 1 = .ok (.iconst 0, 1) := by decide +kernel
theorem dX6_cast_2 : decode cX6_cast 2 = .ok (.iconst 3, 1) := by decide +kernel
theorem dX6_cast_3 : decode cX6_cast 3 = .ok (.invokestatic 81, 3) := by decide +kernel
theorem dX6_cast_6 : decode cX6_cast 6 = .ok (.ifCond .eq 12, 3) := by decide +kernel
theorem dX6_cast_9 : decode cX6_cast 9 = .ok (.iload_n 2, 1) := by decide +kernel
theorem dX6_cast_10 : decode cX6_cast 10 = .ok (.iconst 0, 1) := by decide +kernel
theorem dX6_cast_11 : decode cX6_cast 11 = .ok (.iconst 1, 1) := by decide +kernel
theorem dX6_cast_12 : decode cX6_cast 12 = .ok (.invokestatic 81, 3) := by decide +kernel
theorem dX6_cast_15 : decode cX6_cast 15 = .ok (.ifCond .ne 7, 3) := by decide +kernel
theorem dX6_cast_18 : decode cX6_cast 18 = .ok (.sipush (-5000), 3) := by decide +kernel
theorem dX6_cast_21 : decode cX6_cast 21 = .ok (.ireturn, 1) := by decide +kernel
theorem dX6_cast_22 : decode cX6_cast 22 = .ok (.iload_n 1, 1) := by decide +kernel
theorem dX6_cast_23 : decode cX6_cast 23 = .ok (.ifCond .ne 7, 3) := by decide +kernel
theorem dX6_cast_26 : decode cX6_cast 26 = .ok (.iconst 1, 1) := by decide +kernel
theorem dX6_cast_27 : decode cX6_cast 27 = .ok (.goto 26, 3) := by decide +kernel
theorem dX6_cast_30 : decode cX6_cast 30 = .ok (.iload_n 1, 1) := by decide +kernel
theorem dX6_cast_31 : decode cX6_cast 31 = .ok (.iconst 1, 1) := by decide +kernel
theorem dX6_cast_32 : decode cX6_cast 32 = .ok (.if_icmp .ne 8, 3) := by decide +kernel
theorem dX6_cast_35 : decode cX6_cast 35 = .ok (.bipush 7, 2) := by decide +kernel
theorem dX6_cast_37 : decode cX6_cast 37 = .ok (.goto 16, 3) := by decide +kernel
theorem dX6_cast_40 : decode cX6_cast 40 = .ok (.iload_n 1, 1) := by decide +kernel
theorem dX6_cast_41 : decode cX6_cast 41 = .ok (.iconst 2, 1) := by decide +kernel
theorem dX6_cast_42 : decode cX6_cast 42 = .ok (.if_icmp .ne 8, 3) := by decide +kernel
theorem dX6_cast_45 : decode cX6_cast 45 = .ok (.bipush 49, 2) := by decide +kernel
theorem dX6_cast_47 : decode cX6_cast 47 = .ok (.goto 6, 3) := by decide +kernel
theorem dX6_cast_50 : decode cX6_cast 50 = .ok (.sipush 343, 3) := by decide +kernel
theorem dX6_cast_53 : decode cX6_cast 53 = .ok (.istore_n 3, 1) := by decide +kernel
theorem dX6_cast_54 : decode cX6_cast 54 = .ok (.iconst (-1), 1) := by decide +kernel
theorem dX6_cast_55 : decode cX6_cast 55 = .ok (.istore 4, 2) := by decide +kernel
theorem dX6_cast_57 : decode cX6_cast 57 = .ok (.iconst 0, 1) := by decide +kernel
theorem dX6_cast_58 : decode cX6_cast 58 = .ok (.istore 5, 2) := by decide +kernel
theorem dX6_cast_60 : decode cX6_cast 60 = .ok (.aload_n 0, 1) := by decide +kernel
theorem dX6_cast_61 : decode cX6_cast 61 = .ok (.invokevirtual 216, 3) := by decide +kernel
theorem dX6_cast_64 : decode cX6_cast 64 = .ok (.iconst 0, 1) := by decide +kernel
theorem dX6_cast_65 : decode cX6_cast 65 = .ok (.istore 6, 2) := by decide +kernel
theorem dX6_cast_67 : decode cX6_cast 67 = .ok (.iload 6, 2) := by decide +kernel
theorem dX6_cast_69 : decode cX6_cast 69 = .ok (.iload_n 3, 1) := by decide +kernel
theorem dX6_cast_70 : decode cX6_cast 70 = .ok (.if_icmp .ge 99, 3) := by decide +kernel
theorem dX6_cast_73 : decode cX6_cast 73 = .ok (.aload_n 0, 1) := by decide +kernel
theorem dX6_cast_74 : decode cX6_cast 74 = .ok (.iload 6, 2) := by decide +kernel
theorem dX6_cast_76 : decode cX6_cast 76 = .ok (.iload_n 1, 1) := by decide +kernel
theorem dX6_cast_77 : decode cX6_cast 77 = .ok (.invokevirtual 240, 3) := by decide +kernel
theorem dX6_cast_80 : decode cX6_cast 80 = .ok (.istore 7, 2) := by decide +kernel
theorem dX6_cast_82 : decode cX6_cast 82 = .ok (.iload 7, 2) := by decide +kernel
theorem dX6_cast_84 : decode cX6_cast 84 = .ok (.ifCond .eq 75, 3) := by decide +kernel
theorem dX6_cast_87 : decode cX6_cast 87 = .ok (.aload_n 0, 1) := by decide +kernel
theorem dX6_cast_88 : decode cX6_cast 88 = .ok (.bipush 12, 2) := by decide +kernel
theorem dX6_cast_90 : decode cX6_cast 90 = .ok (.invokevirtual 219, 3) := by decide +kernel
theorem dX6_cast_93 : decode cX6_cast 93 = .ok (.aload_n 0, 1) := by decide +kernel
theorem dX6_cast_94 : decode cX6_cast 94 = .ok (.aload_n 0, 1) := by decide +kernel
theorem dX6_cast_95 : decode cX6_cast 95 = .ok (.aload_n 0, 1) := by decide +kernel
theorem dX6_cast_96 : decode cX6_cast 96 = .ok (.getfield 109, 3) := by decide +kernel
theorem dX6_cast_99 : decode cX6_cast 99 = .ok (.invokevirtual 112, 3) := by decide +kernel
theorem dX6_cast_102 : decode cX6_cast 102 = .ok (.putfield 243, 3) := by decide +kernel
theorem dX6_cast_105 : decode cX6_cast 105 = .ok (.iload 4, 2) := by decide +kernel
theorem dX6_cast_107 : decode cX6_cast 107 = .ok (.iconst (-1), 1) := by decide +kernel
theorem dX6_cast_108 : decode cX6_cast 108 = .ok (.if_icmp .eq 12, 3) := by decide +kernel
theorem dX6_cast_111 : decode cX6_cast 111 = .ok (.aload_n 0, 1) := by decide +kernel
theorem dX6_cast_112 : decode cX6_cast 112 = .ok (.getfield 243, 3) := by decide +kernel
theorem dX6_cast_115 : decode cX6_cast 115 = .ok (.iload 5, 2) := by decide +kernel
theorem dX6_cast_117 : decode cX6_cast 117 = .ok (.if_icmp .le 7, 3) := by decide +kernel
theorem dX6_cast_120 : decode cX6_cast 120 = .ok (.iconst 1, 1) := by decide +kernel
theorem dX6_cast_121 : decode cX6_cast 121 = .ok (.goto 4, 3) := by decide +kernel
theorem dX6_cast_124 : decode cX6_cast 124 = .ok (.iconst 0, 1) := by decide +kernel
theorem dX6_cast_125 : decode cX6_cast 125 = .ok (.istore 8, 2) := by decide +kernel
theorem dX6_cast_127 : decode cX6_cast 127 = .ok (.iload 8, 2) := by decide +kernel
theorem dX6_cast_129 : decode cX6_cast 129 = .ok (.ifCond .eq 10, 3) := by decide +kernel
theorem dX6_cast_132 : decode cX6_cast 132 = .ok (.aload_n 0, 1) := by decide +kernel
theorem dX6_cast_133 : decode cX6_cast 133 = .ok (.getfield 237, 3) := by decide +kernel
theorem dX6_cast_136 : decode cX6_cast 136 = .ok (.goto 5, 3) := by decide +kernel
theorem dX6_cast_139 : decode cX6_cast 139 = .ok (.iload 4, 2) := by decide +kernel
theorem dX6_cast_141 : decode cX6_cast 141 = .ok (.istore 4, 2) := by decide +kernel
theorem dX6_cast_143 : decode cX6_cast 143 = .ok (.iload 8, 2) := by decide +kernel
theorem dX6_cast_145 : decode cX6_cast 145 = .ok (.ifCond .eq 10, 3) := by decide +kernel
theorem dX6_cast_148 : decode cX6_cast 148 = .ok (.aload_n 0, 1) := by decide +kernel
theorem dX6_cast_149 : decode cX6_cast 149 = .ok (.getfield 243, 3) := by decide +kernel
theorem dX6_cast_152 : decode cX6_cast 152 = .ok (.goto 5, 3) := by decide +kernel
theorem dX6_cast_155 : decode cX6_cast 155 = .ok (.iload 5, 2) := by decide +kernel
theorem dX6_cast_157 : decode cX6_cast 157 = .ok (.istore 5, 2) := by decide +kernel
theorem dX6_cast_159 : decode cX6_cast 159 = .ok (.aload_n 0, 1) := by decide +kernel
theorem dX6_cast_160 : decode cX6_cast 160 = .ok (.invokevirtual 222, 3) := by decide +kernel
theorem dX6_cast_163 : decode cX6_cast 163 = .ok (.iinc 6 1, 3) := by decide +kernel
theorem dX6_cast_166 : decode cX6_cast 166 = .ok (.goto (-99), 3) := by decide +kernel
theorem dX6_cast_169 : decode cX6_cast 169 = .ok (.iload_n 2, 1) := by decide +kernel
theorem dX6_cast_170 : decode cX6_cast 170 = .ok (.ifCond .ne 8, 3) := by decide +kernel
theorem dX6_cast_173 : decode cX6_cast 173 = .ok (.iload 4, 2) := by decide +kernel
theorem dX6_cast_175 : decode cX6_cast 175 = .ok (.goto 5, 3) := by decide +kernel
theorem dX6_cast_178 : decode cX6_cast 178 = .ok (.iload 5, 2) := by decide +kernel
theorem dX6_cast_180 : decode cX6_cast 180 = .ok (.ireturn, 1) := by decide +kernel
theorem dX6_lowest_0 : decode cX6_lowest 0 = .ok (.lload_n 0, 1) := by decide +kernel
theorem dX6_lowest_1 : decode cX6_lowest 1 = .ok (.lconst 0, 1) := by decide +kernel
theorem dX6_lowest_2 : decode cX6_lowest 2 = .ok (.lcmp, 1) := by decide +kernel
theorem dX6_lowest_3 : decode cX6_lowest 3 = .ok (.ifCond .ge 8, 3) := by decide +kernel
theorem dX6_lowest_6 : decode cX6_lowest 6 = .ok (.lload_n 0, 1) := by decide +kernel
theorem dX6_lowest_7 : decode cX6_lowest 7 = .ok (.lneg, 1) := by decide +kernel
theorem dX6_lowest_8 : decode cX6_lowest 8 = .ok (.goto 4, 3) := by decide +kernel
theorem dX6_lowest_11 : decode cX6_lowest 11 = .ok (.lload_n 0, 1) := by decide +kernel
theorem dX6_lowest_12 : decode cX6_lowest 12 = .ok (.lstore 5, 2) := by decide +kernel
theorem dX6_lowest_14 : decode cX6_lowest 14 = .ok (.lload_n 2, 1) := by decide +kernel
theorem dX6_lowest_15 : decode cX6_lowest 15 = .ok (.lstore 7, 2) := by decide +kernel
theorem dX6_lowest_17 : decode cX6_lowest 17 = .ok (.lload 7, 2) := by decide +kernel
theorem dX6_lowest_19 : decode cX6_lowest 19 = .ok (.lconst 0, 1) := by decide +kernel
theorem dX6_lowest_20 : decode cX6_lowest 20 = .ok (.lcmp, 1) := by decide +kernel
theorem dX6_lowest_21 : decode cX6_lowest 21 = .ok (.ifCond .eq 21, 3) := by decide +kernel
theorem dX6_lowest_24 : decode cX6_lowest 24 = .ok (.lload 5, 2) := by decide +kernel
theorem dX6_lowest_26 : decode cX6_lowest 26 = .ok (.lload 7, 2) := by decide +kernel
theorem dX6_lowest_28 : decode cX6_lowest 28 = .ok (.lrem, 1) := by decide +kernel
theorem dX6_lowest_29 : decode cX6_lowest 29 = .ok (.lstore 9, 2) := by decide +kernel
theorem dX6_lowest_31 : decode cX6_lowest 31 = .ok (.lload 7, 2) := by decide +kernel
theorem dX6_lowest_33 : decode cX6_lowest 33 = .ok (.lstore 5, 2) := by decide +kernel
theorem dX6_lowest_35 : decode cX6_lowest 35 = .ok (.lload 9, 2) := by decide +kernel
theorem dX6_lowest_37 : decode cX6_lowest 37 = .ok (.lstore 7, 2) := by decide +kernel
theorem dX6_lowest_39 : decode cX6_lowest 39 = .ok (.goto (-22), 3) := by decide +kernel
theorem dX6_lowest_42 : decode cX6_lowest 42 = .ok (.iload 4, 2) := by decide +kernel
theorem dX6_lowest_44 : decode cX6_lowest 44 = .ok (.ifCond .ne 7, 3) := by decide +kernel
theorem dX6_lowest_47 : decode cX6_lowest 47 = .ok (.lload_n 0, 1) := by decide +kernel
theorem dX6_lowest_48 : decode cX6_lowest 48 = .ok (.goto 4, 3) := by decide +kernel
theorem dX6_lowest_51 : decode cX6_lowest 51 = .ok (.lload_n 2, 1) := by decide +kernel
theorem dX6_lowest_52 : decode cX6_lowest 52 = .ok (.lload 5, 2) := by decide +kernel
theorem dX6_lowest_54 : decode cX6_lowest 54 = .ok (.ldiv, 1) := by decide +kernel
theorem dX6_lowest_55 : decode cX6_lowest 55 = .ok (.lreturn, 1) := by decide +kernel
set_option maxRecDepth 20000 in
theorem ggX6_mean_X6_in : GoodIn wsX6_mean wsX6_in := goodIn_r _ [6] (by decide +kernel) (by decide +kernel)
set_option maxRecDepth 20000 in
theorem gX6_mean_X6_in : GoodIn wsX6_mean (va_wsS RX6 81 yX6_in wsX6_in) := goodIn_app (goodIn_of _ (by decide +kernel)) ggX6_mean_X6_in
set_option maxRecDepth 20000 in
theorem ggX6_mean_X6_verdictOf : GoodIn wsX6_mean wsX6_verdictOf := goodIn_r _ [10, 11, 18, 19, 20, 21, 22, 23, 24, 25, 26, 27, 28, 29, 30, 31, 32, 33, 34, 35, 36, 37, 38, 39, 40, 41, 42, 43, 44, 45, 46, 47, 48, 49, 50, 51, 52, 53, 54, 55] (by decide +kernel) (by decide +kernel)
set_option maxRecDepth 20000 in
theorem gX6_mean_X6_verdictOf : GoodIn wsX6_mean (wsV RX6 112 RX6 yX6_verdictOf wsX6_verdictOf) := goodIn_app (goodIn_of _ (by decide +kernel)) ggX6_mean_X6_verdictOf
set_option maxRecDepth 20000 in
theorem ggX6_mean_X6_onesOf : GoodIn wsX6_mean wsX6_onesOf := goodIn_r _ [14] (by decide +kernel) (by decide +kernel)
set_option maxRecDepth 20000 in
theorem gX6_mean_X6_onesOf : GoodIn wsX6_mean (va_wsS RX6 177 yX6_onesOf wsX6_onesOf) := goodIn_app (goodIn_of _ (by decide +kernel)) ggX6_mean_X6_onesOf
set_option maxRecDepth 20000 in
theorem ggX6_mean_X6_lowest : GoodIn wsX6_mean wsX6_lowest := goodIn_r _ [17] (by decide +kernel) (by decide +kernel)
set_option maxRecDepth 20000 in
theorem gX6_mean_X6_lowest : GoodIn wsX6_mean (va_wsS RX6 246 yX6_lowest wsX6_lowest) := goodIn_app (goodIn_of _ (by decide +kernel)) ggX6_mean_X6_lowest
theorem dX6_mean_0 : decode cX6_mean 0 = .ok (.iload_n 1, 1) := by decide +kernel
theorem dX6_mean_1 : decode cX6_mean 1 = .ok (.iconst 0, 1) := by decide +kernel
theorem dX6_mean_2 : decode cX6_mean 2 = .ok (.iconst 1, 1) := by decide +kernel
theorem dX6_mean_3 : decode cX6_mean 3 = .ok (.invokestatic 81, 3) := by decide +kernel
theorem dX6_mean_6 : decode cX6_mean 6 = .ok (.ifCond .eq 34, 3) := by decide +kernel
theorem dX6_mean_9 : decode cX6_mean 9 = .ok (.aload_n 0, 1) := by decide +kernel
theorem dX6_mean_10 : decode cX6_mean 10 = .ok (.getfield 109, 3) := by decide +kernel
theorem dX6_mean_13 : decode cX6_mean 13 = .ok (.ifCond .eq 27, 3) := by decide +kernel
theorem dX6_mean_16 : decode cX6_mean 16 = .ok (.aload_n 0, 1) := by decide +kernel
theorem dX6_mean_17 : decode cX6_mean 17 = .ok (.aload_n 0, 1) := by decide +kernel
theorem dX6_mean_18 : decode cX6_mean 18 = .ok (.getfield 109, 3) := by decide +kernel
theorem dX6_mean_21 : decode cX6_mean 21 = .ok (.invokevirtual 112, 3) := by decide +kernel
theorem dX6_mean_24 : decode cX6_mean 24 = .ok (.i2l, 1) := by decide +kernel
theorem dX6_mean_25 : decode cX6_mean 25 = .ok (.aload_n 0, 1) := by decide +kernel
theorem dX6_mean_26 : decode cX6_mean 26 = .ok (.getfield 109, 3) := by decide +kernel
theorem dX6_mean_29 : decode cX6_mean 29 = .ok (.invokestatic 177, 3) := by decide +kernel
theorem dX6_mean_32 : decode cX6_mean 32 = .ok (.i2l, 1) := by decide +kernel
theorem dX6_mean_33 : decode cX6_mean 33 = .ok (.iload_n 1, 1) := by decide +kernel
theorem dX6_mean_34 : decode cX6_mean 34 = .ok (.invokestatic 246, 3) := by decide +kernel
theorem dX6_mean_37 : decode cX6_mean 37 = .ok (.goto 6, 3) := by decide +kernel
theorem dX6_mean_40 : decode cX6_mean 40 = .ok (.ldc2_w 250, 3) := by decide +kernel
theorem dX6_mean_43 : decode cX6_mean 43 = .ok (.lreturn, 1) := by decide +kernel
set_option maxRecDepth 20000 in
theorem ggX6_sheetWrong_X6_in : GoodIn wsX6_sheetWrong wsX6_in := goodIn_r _ [6] (by decide +kernel) (by decide +kernel)
set_option maxRecDepth 20000 in
theorem gX6_sheetWrong_X6_in : GoodIn wsX6_sheetWrong (va_wsS RX6 81 yX6_in wsX6_in) := goodIn_app (goodIn_of _ (by decide +kernel)) ggX6_sheetWrong_X6_in
theorem dX6_sheetWrong_0 : decode cX6_sheetWrong 0 = .ok (.iload_n 1, 1) := by decide +kernel
theorem dX6_sheetWrong_1 : decode cX6_sheetWrong 1 = .ok (.iconst 0, 1) := by decide +kernel
theorem dX6_sheetWrong_2 : decode cX6_sheetWrong 2 = .ok (.iconst 3, 1) := by decide +kernel
theorem dX6_sheetWrong_3 : decode cX6_sheetWrong 3 = .ok (.invokestatic 81, 3) := by decide +kernel
theorem dX6_sheetWrong_6 : decode cX6_sheetWrong 6 = .ok (.ifCond .ne 6, 3) := by decide +kernel
theorem dX6_sheetWrong_9 : decode cX6_sheetWrong 9 = .ok (.bipush (-2), 2) := by decide +kernel
theorem dX6_sheetWrong_11 : decode cX6_sheetWrong 11 = .ok (.ireturn, 1) := by decide +kernel
theorem dX6_sheetWrong_12 : decode cX6_sheetWrong 12 = .ok (.aload_n 0, 1) := by decide +kernel
theorem dX6_sheetWrong_13 : decode cX6_sheetWrong 13 = .ok (.getfield 43, 3) := by decide +kernel
theorem dX6_sheetWrong_16 : decode cX6_sheetWrong 16 = .ok (.iload_n 1, 1) := by decide +kernel
theorem dX6_sheetWrong_17 : decode cX6_sheetWrong 17 = .ok (.iaload, 1) := by decide +kernel
theorem dX6_sheetWrong_18 : decode cX6_sheetWrong 18 = .ok (.iconst (-1), 1) := by decide +kernel
theorem dX6_sheetWrong_19 : decode cX6_sheetWrong 19 = .ok (.if_icmp .ne 6, 3) := by decide +kernel
theorem dX6_sheetWrong_22 : decode cX6_sheetWrong 22 = .ok (.bipush (-11), 2) := by decide +kernel
theorem dX6_sheetWrong_24 : decode cX6_sheetWrong 24 = .ok (.ireturn, 1) := by decide +kernel
theorem dX6_sheetWrong_25 : decode cX6_sheetWrong 25 = .ok (.aload_n 0, 1) := by decide +kernel
theorem dX6_sheetWrong_26 : decode cX6_sheetWrong 26 = .ok (.getfield 46, 3) := by decide +kernel
theorem dX6_sheetWrong_29 : decode cX6_sheetWrong 29 = .ok (.iload_n 1, 1) := by decide +kernel
theorem dX6_sheetWrong_30 : decode cX6_sheetWrong 30 = .ok (.iaload, 1) := by decide +kernel
theorem dX6_sheetWrong_31 : decode cX6_sheetWrong 31 = .ok (.bipush 20, 2) := by decide +kernel
theorem dX6_sheetWrong_33 : decode cX6_sheetWrong 33 = .ok (.if_icmp .le 8, 3) := by decide +kernel
theorem dX6_sheetWrong_36 : decode cX6_sheetWrong 36 = .ok (.bipush (-2), 2) := by decide +kernel
theorem dX6_sheetWrong_38 : decode cX6_sheetWrong 38 = .ok (.goto 4, 3) := by decide +kernel
theorem dX6_sheetWrong_41 : decode cX6_sheetWrong 41 = .ok (.iconst 0, 1) := by decide +kernel
theorem dX6_sheetWrong_42 : decode cX6_sheetWrong 42 = .ok (.ireturn, 1) := by decide +kernel
set_option maxRecDepth 20000 in
theorem ggX6_unlike_X6_keeps : GoodIn wsX6_unlike wsX6_keeps := goodIn_r _ [8, 9, 10, 11, 3, 12, 66, 67, 68, 69, 70, 71, 72, 73, 74, 75, 76, 77, 78, 79, 80, 81, 82, 83, 84, 85, 86, 87, 88, 89, 90, 91, 92, 93, 94, 95, 96, 97, 98, 99, 100, 101, 102, 103] (by decide +kernel) (by decide +kernel)
set_option maxRecDepth 20000 in
theorem gX6_unlike_X6_keeps : GoodIn wsX6_unlike (wsV RX6 216 RX6 yX6_keeps wsX6_keeps) := goodIn_app (goodIn_of _ (by decide +kernel)) ggX6_unlike_X6_keeps
set_option maxRecDepth 20000 in
theorem ggX6_unlike_X6_hourOf : GoodIn wsX6_unlike wsX6_hourOf := goodIn_r _ [16, 12, 11, 3, 10, 17, 18, 19, 7, 20, 21, 22, 23, 24, 25, 26, 27, 28, 29, 30, 31, 32, 33, 34, 35, 36, 37, 38, 39, 40, 41, 42, 43, 44, 45, 46, 47, 48, 49, 50, 51, 52, 53, 54, 55, 56, 57, 58, 59, 60, 61, 66, 67, 68, 69, 70, 71, 72, 73, 74, 75, 76, 77, 78, 79, 80, 81, 82, 83, 84, 85, 86, 87, 88, 89, 90, 91, 92, 93, 94, 95, 96, 97, 98, 99, 100, 101, 102, 103] (by decide +kernel) (by decide +kernel)
set_option maxRecDepth 20000 in
theorem gX6_unlike_X6_hourOf : GoodIn wsX6_unlike (wsV RX6 213 RX6 yX6_hourOf wsX6_hourOf) := goodIn_app (goodIn_of _ (by decide +kernel)) ggX6_unlike_X6_hourOf
set_option maxRecDepth 20000 in
theorem ggX6_unlike_X6_onesOf : GoodIn wsX6_unlike wsX6_onesOf := goodIn_r _ [45] (by decide +kernel) (by decide +kernel)
set_option maxRecDepth 20000 in
theorem gX6_unlike_X6_onesOf : GoodIn wsX6_unlike (va_wsS RX6 177 yX6_onesOf wsX6_onesOf) := goodIn_app (goodIn_of _ (by decide +kernel)) ggX6_unlike_X6_onesOf
set_option maxRecDepth 20000 in
theorem ggX6_unlike_X6_lays : GoodIn wsX6_unlike wsX6_lays := goodIn_r _ [65, 10, 9, 11, 3, 12, 66, 67, 68, 69, 70, 71, 72, 73, 74, 75, 76, 77, 78, 79, 80, 81, 82, 83, 84, 85, 86, 87, 88, 89, 90, 91, 92, 93, 94, 95, 96, 97, 98, 99, 100, 101, 102, 103] (by decide +kernel) (by decide +kernel)
set_option maxRecDepth 20000 in
theorem gX6_unlike_X6_lays : GoodIn wsX6_unlike (wsV RX6 222 RX6 yX6_lays wsX6_lays) := goodIn_app (goodIn_of _ (by decide +kernel)) ggX6_unlike_X6_lays
theorem dX6_unlike_0 : decode cX6_unlike 0 = .ok (.iconst (-1), 1) := by decide +kernel
theorem dX6_unlike_1 : decode cX6_unlike 1 = .ok (.istore_n 2, 1) := by decide +kernel
theorem dX6_unlike_2 : decode cX6_unlike 2 = .ok (.aload_n 0, 1) := by decide +kernel
theorem dX6_unlike_3 : decode cX6_unlike 3 = .ok (.invokevirtual 216, 3) := by decide +kernel
theorem dX6_unlike_6 : decode cX6_unlike 6 = .ok (.iconst 0, 1) := by decide +kernel
theorem dX6_unlike_7 : decode cX6_unlike 7 = .ok (.istore_n 3, 1) := by decide +kernel
theorem dX6_unlike_8 : decode cX6_unlike 8 = .ok (.iload_n 3, 1) := by decide +kernel
theorem dX6_unlike_9 : decode cX6_unlike 9 = .ok (.aload_n 0, 1) := by decide +kernel
theorem dX6_unlike_10 : decode cX6_unlike 10 = .ok (.getfield 46, 3) := by decide +kernel
theorem dX6_unlike_13 : decode cX6_unlike 13 = .ok (.iload_n 1, 1) := by decide +kernel
theorem dX6_unlike_14 : decode cX6_unlike 14 = .ok (.iaload, 1) := by decide +kernel
theorem dX6_unlike_15 : decode cX6_unlike 15 = .ok (.if_icmp .ge 46, 3) := by decide +kernel
theorem dX6_unlike_18 : decode cX6_unlike 18 = .ok (.iload_n 2, 1) := by decide +kernel
theorem dX6_unlike_19 : decode cX6_unlike 19 = .ok (.iconst (-1), 1) := by decide +kernel
theorem dX6_unlike_20 : decode cX6_unlike 20 = .ok (.if_icmp .ne 41, 3) := by decide +kernel
theorem dX6_unlike_23 : decode cX6_unlike 23 = .ok (.aload_n 0, 1) := by decide +kernel
theorem dX6_unlike_24 : decode cX6_unlike 24 = .ok (.invokevirtual 213, 3) := by decide +kernel
theorem dX6_unlike_27 : decode cX6_unlike 27 = .ok (.pop, 1) := by decide +kernel
theorem dX6_unlike_28 : decode cX6_unlike 28 = .ok (.aload_n 0, 1) := by decide +kernel
theorem dX6_unlike_29 : decode cX6_unlike 29 = .ok (.getfield 49, 3) := by decide +kernel
theorem dX6_unlike_32 : decode cX6_unlike 32 = .ok (.bipush 40, 2) := by decide +kernel
theorem dX6_unlike_34 : decode cX6_unlike 34 = .ok (.iload_n 1, 1) := by decide +kernel
theorem dX6_unlike_35 : decode cX6_unlike 35 = .ok (.imul, 1) := by decide +kernel
theorem dX6_unlike_36 : decode cX6_unlike 36 = .ok (.iload_n 3, 1) := by decide +kernel
theorem dX6_unlike_37 : decode cX6_unlike 37 = .ok (.iadd, 1) := by decide +kernel
theorem dX6_unlike_38 : decode cX6_unlike 38 = .ok (.iaload, 1) := by decide +kernel
theorem dX6_unlike_39 : decode cX6_unlike 39 = .ok (.aload_n 0, 1) := by decide +kernel
theorem dX6_unlike_40 : decode cX6_unlike 40 = .ok (.getfield 109, 3) := by decide +kernel
theorem dX6_unlike_43 : decode cX6_unlike 43 = .ok (.invokestatic 177, 3) := by decide +kernel
theorem dX6_unlike_46 : decode cX6_unlike 46 = .ok (.if_icmp .ne 7, 3) := by decide +kernel
theorem dX6_unlike_49 : decode cX6_unlike 49 = .ok (.iconst (-1), 1) := by decide +kernel
theorem dX6_unlike_50 : decode cX6_unlike 50 = .ok (.goto 4, 3) := by decide +kernel
theorem dX6_unlike_53 : decode cX6_unlike 53 = .ok (.iload_n 3, 1) := by decide +kernel
theorem dX6_unlike_54 : decode cX6_unlike 54 = .ok (.istore_n 2, 1) := by decide +kernel
theorem dX6_unlike_55 : decode cX6_unlike 55 = .ok (.iinc 3 1, 3) := by decide +kernel
theorem dX6_unlike_58 : decode cX6_unlike 58 = .ok (.goto (-50), 3) := by decide +kernel
theorem dX6_unlike_61 : decode cX6_unlike 61 = .ok (.aload_n 0, 1) := by decide +kernel
theorem dX6_unlike_62 : decode cX6_unlike 62 = .ok (.invokevirtual 222, 3) := by decide +kernel
theorem dX6_unlike_65 : decode cX6_unlike 65 = .ok (.iload_n 2, 1) := by decide +kernel
theorem dX6_unlike_66 : decode cX6_unlike 66 = .ok (.ireturn, 1) := by decide +kernel
set_option maxRecDepth 20000 in
theorem ggX6_judge_X6_sheetWrong : GoodIn wsX6_judge wsX6_sheetWrong := goodIn_r _ [5, 6, 7, 8, 9, 4, 10, 75, 76, 77, 78, 79, 80, 81, 82, 83, 84, 85, 86, 87, 88, 89, 90, 91, 92, 93, 94, 95, 96, 97, 98, 99, 100, 101, 102, 103, 104, 105, 106, 107, 108, 109, 110, 111, 112] (by decide +kernel) (by decide +kernel)
set_option maxRecDepth 20000 in
theorem gX6_judge_X6_sheetWrong : GoodIn wsX6_judge (wsV RX6 252 RX6 yX6_sheetWrong wsX6_sheetWrong) := goodIn_app (goodIn_of _ (by decide +kernel)) ggX6_judge_X6_sheetWrong
set_option maxRecDepth 20000 in
theorem ggX6_judge_X6_unlike : GoodIn wsX6_judge wsX6_unlike := goodIn_r _ [14, 7, 15, 16, 17, 18, 19, 4, 20, 21, 22, 23, 24, 25, 26, 27, 28, 29, 30, 31, 32, 8, 9, 10, 33, 34, 35, 36, 37, 38, 39, 40, 41, 42, 43, 44, 45, 46, 47, 48, 49, 50, 51, 52, 53, 54, 55, 56, 57, 58, 59, 60, 61, 62, 63, 64, 65, 66, 67, 68, 69, 70, 71, 72, 73, 74, 75, 76, 77, 78, 79, 80, 81, 82, 83, 84, 85, 86, 87, 88, 89, 90, 91, 92, 93, 94, 95, 96, 97, 98, 99, 100, 101, 102, 103, 104, 105, 106, 107, 108, 109, 110, 111, 112] (by decide +kernel) (by decide +kernel)
set_option maxRecDepth 20000 in
theorem gX6_judge_X6_unlike : GoodIn wsX6_judge (wsV RX6 255 RX6 yX6_unlike wsX6_unlike) := goodIn_app (goodIn_of _ (by decide +kernel)) ggX6_judge_X6_unlike
theorem dX6_judge_0 : decode cX6_judge 0 = .ok (.aload_n 0, 1) := by decide +kernel
theorem dX6_judge_1 : decode cX6_judge 1 = .ok (.iload_n 1, 1) := by decide +kernel
theorem dX6_judge_2 : decode cX6_judge 2 = .ok (.invokevirtual 252, 3) := by decide +kernel
theorem dX6_judge_5 : decode cX6_judge 5 = .ok (.istore_n 2, 1) := by decide +kernel
theorem dX6_judge_6 : decode cX6_judge 6 = .ok (.iload_n 2, 1) := by decide +kernel
theorem dX6_judge_7 : decode cX6_judge 7 = .ok (.ifCond .ne 11, 3) := by decide +kernel
theorem dX6_judge_10 : decode cX6_judge 10 = .ok (.aload_n 0, 1) := by decide +kernel
theorem dX6_judge_11 : decode cX6_judge 11 = .ok (.iload_n 1, 1) := by decide +kernel
theorem dX6_judge_12 : decode cX6_judge 12 = .ok (.invokevirtual 255, 3) := by decide +kernel
theorem dX6_judge_15 : decode cX6_judge 15 = .ok (.goto 4, 3) := by decide +kernel
theorem dX6_judge_18 : decode cX6_judge 18 = .ok (.iload_n 2, 1) := by decide +kernel
theorem dX6_judge_19 : decode cX6_judge 19 = .ok (.ireturn, 1) := by decide +kernel
set_option maxRecDepth 20000 in
theorem ggX6_kinds_X6_sheetWrong : GoodIn wsX6_kinds wsX6_sheetWrong := goodIn_r _ [7, 8, 9, 10, 11, 6, 12, 80, 81, 82, 83, 84, 85, 86, 87, 88, 89, 90, 91, 92, 93, 94, 95, 96, 97, 98, 99, 100, 101, 102, 103, 104, 105, 106, 107, 108, 109, 110, 111, 112, 113, 114, 115, 116, 117] (by decide +kernel) (by decide +kernel)
set_option maxRecDepth 20000 in
theorem gX6_kinds_X6_sheetWrong : GoodIn wsX6_kinds (wsV RX6 252 RX6 yX6_sheetWrong wsX6_sheetWrong) := goodIn_app (goodIn_of _ (by decide +kernel)) ggX6_kinds_X6_sheetWrong
set_option maxRecDepth 20000 in
theorem ggX6_kinds_X6_isOne : GoodIn wsX6_kinds wsX6_isOne := goodIn_r _ [16, 17, 10, 11, 6, 12, 80, 81, 82, 83, 84, 85, 86, 87, 88, 89, 90, 91, 92, 93, 94, 95, 96, 97, 98, 99, 100, 101, 102, 103, 104, 105, 106, 107, 108, 109, 110, 111, 112, 113, 114, 115, 116, 117] (by decide +kernel) (by decide +kernel)
set_option maxRecDepth 20000 in
theorem gX6_kinds_X6_isOne : GoodIn wsX6_kinds (wsV RX6 183 RX6 yX6_isOne wsX6_isOne) := goodIn_app (goodIn_of _ (by decide +kernel)) ggX6_kinds_X6_isOne
set_option maxRecDepth 20000 in
theorem ggX6_kinds_X6_in : GoodIn wsX6_kinds wsX6_in := goodIn_r _ [12] (by decide +kernel) (by decide +kernel)
set_option maxRecDepth 20000 in
theorem gX6_kinds_X6_in : GoodIn wsX6_kinds (va_wsS RX6 81 yX6_in wsX6_in) := goodIn_app (goodIn_of _ (by decide +kernel)) ggX6_kinds_X6_in
set_option maxRecDepth 20000 in
theorem ggX6_kinds_X6_unlike : GoodIn wsX6_kinds wsX6_unlike := goodIn_r _ [21, 9, 22, 23, 24, 25, 26, 6, 27, 28, 29, 30, 31, 32, 33, 34, 35, 36, 37, 38, 39, 10, 11, 12, 40, 41, 42, 43, 44, 45, 46, 47, 48, 49, 50, 51, 1, 2, 52, 53, 54, 55, 56, 57, 58, 59, 60, 61, 62, 63, 64, 65, 66, 67, 68, 69, 70, 71, 72, 73, 74, 75, 76, 77, 78, 79, 80, 81, 82, 83, 84, 85, 86, 87, 88, 89, 90, 91, 92, 93, 94, 95, 96, 97, 98, 99, 100, 101, 102, 103, 104, 105, 106, 107, 108, 109, 110, 111, 112, 113, 114, 115, 116, 117] (by decide +kernel) (by decide +kernel)
set_option maxRecDepth 20000 in
theorem gX6_kinds_X6_unlike : GoodIn wsX6_kinds (wsV RX6 255 RX6 yX6_unlike wsX6_unlike) := goodIn_app (goodIn_of _ (by decide +kernel)) ggX6_kinds_X6_unlike
theorem dX6_kinds_0 : decode cX6_kinds 0 = .ok (.aload_n 0, 1) := by decide +kernel
theorem dX6_kinds_1 : decode cX6_kinds 1 = .ok (.iload_n 1, 1) := by decide +kernel
theorem dX6_kinds_2 : decode cX6_kinds 2 = .ok (.invokevirtual 252, 3) := by decide +kernel
theorem dX6_kinds_5 : decode cX6_kinds 5 = .ok (.istore 4, 2) := by decide +kernel
theorem dX6_kinds_7 : decode cX6_kinds 7 = .ok (.iload 4, 2) := by decide +kernel
theorem dX6_kinds_9 : decode cX6_kinds 9 = .ok (.ifCond .eq 6, 3) := by decide +kernel
theorem dX6_kinds_12 : decode cX6_kinds 12 = .ok (.iload 4, 2) := by decide +kernel
theorem dX6_kinds_14 : decode cX6_kinds 14 = .ok (.ireturn, 1) := by decide +kernel
theorem dX6_kinds_15 : decode cX6_kinds 15 = .ok (.aload_n 0, 1) := by decide +kernel
theorem dX6_kinds_16 : decode cX6_kinds 16 = .ok (.iload_n 2, 1) := by decide +kernel
theorem dX6_kinds_17 : decode cX6_kinds 17 = .ok (.invokevirtual 183, 3) := by decide +kernel
theorem dX6_kinds_20 : decode cX6_kinds 20 = .ok (.ifCond .ne 6, 3) := by decide +kernel
theorem dX6_kinds_23 : decode cX6_kinds 23 = .ok (.bipush (-5), 2) := by decide +kernel
theorem dX6_kinds_25 : decode cX6_kinds 25 = .ok (.ireturn, 1) := by decide +kernel
theorem dX6_kinds_26 : decode cX6_kinds 26 = .ok (.iload_n 3, 1) := by decide +kernel
theorem dX6_kinds_27 : decode cX6_kinds 27 = .ok (.iconst 0, 1) := by decide +kernel
theorem dX6_kinds_28 : decode cX6_kinds 28 = .ok (.iconst 1, 1) := by decide +kernel
theorem dX6_kinds_29 : decode cX6_kinds 29 = .ok (.invokestatic 81, 3) := by decide +kernel
theorem dX6_kinds_32 : decode cX6_kinds 32 = .ok (.ifCond .ne 6, 3) := by decide +kernel
theorem dX6_kinds_35 : decode cX6_kinds 35 = .ok (.bipush (-7), 2) := by decide +kernel
theorem dX6_kinds_37 : decode cX6_kinds 37 = .ok (.ireturn, 1) := by decide +kernel
theorem dX6_kinds_38 : decode cX6_kinds 38 = .ok (.aload_n 0, 1) := by decide +kernel
theorem dX6_kinds_39 : decode cX6_kinds 39 = .ok (.getfield 7, 3) := by decide +kernel
theorem dX6_kinds_42 : decode cX6_kinds 42 = .ok (.iload_n 2, 1) := by decide +kernel
theorem dX6_kinds_43 : decode cX6_kinds 43 = .ok (.iaload, 1) := by decide +kernel
theorem dX6_kinds_44 : decode cX6_kinds 44 = .ok (.istore 5, 2) := by decide +kernel
theorem dX6_kinds_46 : decode cX6_kinds 46 = .ok (.aload_n 0, 1) := by decide +kernel
theorem dX6_kinds_47 : decode cX6_kinds 47 = .ok (.getfield 13, 3) := by decide +kernel
theorem dX6_kinds_50 : decode cX6_kinds 50 = .ok (.iload_n 2, 1) := by decide +kernel
theorem dX6_kinds_51 : decode cX6_kinds 51 = .ok (.iaload, 1) := by decide +kernel
theorem dX6_kinds_52 : decode cX6_kinds 52 = .ok (.istore 6, 2) := by decide +kernel
theorem dX6_kinds_54 : decode cX6_kinds 54 = .ok (.iconst 0, 1) := by decide +kernel
theorem dX6_kinds_55 : decode cX6_kinds 55 = .ok (.istore 7, 2) := by decide +kernel
theorem dX6_kinds_57 : decode cX6_kinds 57 = .ok (.iconst 0, 1) := by decide +kernel
theorem dX6_kinds_58 : decode cX6_kinds 58 = .ok (.istore 8, 2) := by decide +kernel
theorem dX6_kinds_60 : decode cX6_kinds 60 = .ok (.iload 8, 2) := by decide +kernel
theorem dX6_kinds_62 : decode cX6_kinds 62 = .ok (.iload_n 3, 1) := by decide +kernel
theorem dX6_kinds_63 : decode cX6_kinds 63 = .ok (.ifCond .ne 8, 3) := by decide +kernel
theorem dX6_kinds_66 : decode cX6_kinds 66 = .ok (.bipush 6, 2) := by decide +kernel
theorem dX6_kinds_68 : decode cX6_kinds 68 = .ok (.goto 5, 3) := by decide +kernel
theorem dX6_kinds_71 : decode cX6_kinds 71 = .ok (.bipush 10, 2) := by decide +kernel
theorem dX6_kinds_73 : decode cX6_kinds 73 = .ok (.if_icmp .ge 66, 3) := by decide +kernel
theorem dX6_kinds_76 : decode cX6_kinds 76 = .ok (.aload_n 0, 1) := by decide +kernel
theorem dX6_kinds_77 : decode cX6_kinds 77 = .ok (.getfield 7, 3) := by decide +kernel
theorem dX6_kinds_80 : decode cX6_kinds 80 = .ok (.iload_n 2, 1) := by decide +kernel
theorem dX6_kinds_81 : decode cX6_kinds 81 = .ok (.iload_n 3, 1) := by decide +kernel
theorem dX6_kinds_82 : decode cX6_kinds 82 = .ok (.ifCond .ne 8, 3) := by decide +kernel
theorem dX6_kinds_85 : decode cX6_kinds 85 = .ok (.iload 8, 2) := by decide +kernel
theorem dX6_kinds_87 : decode cX6_kinds 87 = .ok (.goto 5, 3) := by decide +kernel
theorem dX6_kinds_90 : decode cX6_kinds 90 = .ok (.iload 5, 2) := by decide +kernel
theorem dX6_kinds_92 : decode cX6_kinds 92 = .ok (.iastore, 1) := by decide +kernel
theorem dX6_kinds_93 : decode cX6_kinds 93 = .ok (.aload_n 0, 1) := by decide +kernel
theorem dX6_kinds_94 : decode cX6_kinds 94 = .ok (.getfield 13, 3) := by decide +kernel
theorem dX6_kinds_97 : decode cX6_kinds 97 = .ok (.iload_n 2, 1) := by decide +kernel
theorem dX6_kinds_98 : decode cX6_kinds 98 = .ok (.iload_n 3, 1) := by decide +kernel
theorem dX6_kinds_99 : decode cX6_kinds 99 = .ok (.iconst 1, 1) := by decide +kernel
theorem dX6_kinds_100 : decode cX6_kinds 100 = .ok (.if_icmp .ne 8, 3) := by decide +kernel
theorem dX6_kinds_103 : decode cX6_kinds 103 = .ok (.iload 8, 2) := by decide +kernel
theorem dX6_kinds_105 : decode cX6_kinds 105 = .ok (.goto 5, 3) := by decide +kernel
theorem dX6_kinds_108 : decode cX6_kinds 108 = .ok (.iload 6, 2) := by decide +kernel
theorem dX6_kinds_110 : decode cX6_kinds 110 = .ok (.iastore, 1) := by decide +kernel
theorem dX6_kinds_111 : decode cX6_kinds 111 = .ok (.iload 7, 2) := by decide +kernel
theorem dX6_kinds_113 : decode cX6_kinds 113 = .ok (.aload_n 0, 1) := by decide +kernel
theorem dX6_kinds_114 : decode cX6_kinds 114 = .ok (.iload_n 1, 1) := by decide +kernel
theorem dX6_kinds_115 : decode cX6_kinds 115 = .ok (.invokevirtual 255, 3) := by decide +kernel
theorem dX6_kinds_118 : decode cX6_kinds 118 = .ok (.iconst (-1), 1) := by decide +kernel
theorem dX6_kinds_119 : decode cX6_kinds 119 = .ok (.if_icmp .ne 10, 3) := by decide +kernel
theorem dX6_kinds_122 : decode cX6_kinds 122 = .ok (.iconst 1, 1) := by decide +kernel
theorem dX6_kinds_123 : decode cX6_kinds 123 = .ok (.iload 8, 2) := by decide +kernel
theorem dX6_kinds_125 : decode cX6_kinds 125 = .ok (.ishl, 1) := by decide +kernel
theorem dX6_kinds_126 : decode cX6_kinds 126 = .ok (.goto 4, 3) := by decide +kernel
theorem dX6_kinds_129 : decode cX6_kinds 129 = .ok (.iconst 0, 1) := by decide +kernel
theorem dX6_kinds_130 : decode cX6_kinds 130 = .ok (.ior, 1) := by decide +kernel
theorem dX6_kinds_131 : decode cX6_kinds 131 = .ok (.istore 7, 2) := by decide +kernel
theorem dX6_kinds_133 : decode cX6_kinds 133 = .ok (.iinc 8 1, 3) := by decide +kernel
theorem dX6_kinds_136 : decode cX6_kinds 136 = .ok (.goto (-76), 3) := by decide +kernel
theorem dX6_kinds_139 : decode cX6_kinds 139 = .ok (.aload_n 0, 1) := by decide +kernel
theorem dX6_kinds_140 : decode cX6_kinds 140 = .ok (.getfield 7, 3) := by decide +kernel
theorem dX6_kinds_143 : decode cX6_kinds 143 = .ok (.iload_n 2, 1) := by decide +kernel
theorem dX6_kinds_144 : decode cX6_kinds 144 = .ok (.iload 5, 2) := by decide +kernel
theorem dX6_kinds_146 : decode cX6_kinds 146 = .ok (.iastore, 1) := by decide +kernel
theorem dX6_kinds_147 : decode cX6_kinds 147 = .ok (.aload_n 0, 1) := by decide +kernel
theorem dX6_kinds_148 : decode cX6_kinds 148 = .ok (.getfield 13, 3) := by decide +kernel
theorem dX6_kinds_151 : decode cX6_kinds 151 = .ok (.iload_n 2, 1) := by decide +kernel
theorem dX6_kinds_152 : decode cX6_kinds 152 = .ok (.iload 6, 2) := by decide +kernel
theorem dX6_kinds_154 : decode cX6_kinds 154 = .ok (.iastore, 1) := by decide +kernel
theorem dX6_kinds_155 : decode cX6_kinds 155 = .ok (.iload 7, 2) := by decide +kernel
theorem dX6_kinds_157 : decode cX6_kinds 157 = .ok (.ireturn, 1) := by decide +kernel
set_option maxRecDepth 20000 in
theorem ggX6_faces_X6_sheetWrong : GoodIn wsX6_faces wsX6_sheetWrong := goodIn_r _ [6, 7, 8, 9, 10, 5, 11, 80, 81, 82, 83, 84, 85, 86, 87, 88, 89, 90, 91, 92, 93, 94, 95, 96, 97, 98, 99, 100, 101, 102, 103, 104, 105, 106, 107, 108, 109, 110, 111, 112, 113, 114, 115, 116, 117] (by decide +kernel) (by decide +kernel)
set_option maxRecDepth 20000 in
theorem gX6_faces_X6_sheetWrong : GoodIn wsX6_faces (wsV RX6 252 RX6 yX6_sheetWrong wsX6_sheetWrong) := goodIn_app (goodIn_of _ (by decide +kernel)) ggX6_faces_X6_sheetWrong
set_option maxRecDepth 20000 in
theorem ggX6_faces_X6_isOne : GoodIn wsX6_faces wsX6_isOne := goodIn_r _ [15, 16, 9, 10, 5, 11, 80, 81, 82, 83, 84, 85, 86, 87, 88, 89, 90, 91, 92, 93, 94, 95, 96, 97, 98, 99, 100, 101, 102, 103, 104, 105, 106, 107, 108, 109, 110, 111, 112, 113, 114, 115, 116, 117] (by decide +kernel) (by decide +kernel)
set_option maxRecDepth 20000 in
theorem gX6_faces_X6_isOne : GoodIn wsX6_faces (wsV RX6 183 RX6 yX6_isOne wsX6_isOne) := goodIn_app (goodIn_of _ (by decide +kernel)) ggX6_faces_X6_isOne
set_option maxRecDepth 20000 in
theorem ggX6_faces_X6_in : GoodIn wsX6_faces wsX6_in := goodIn_r _ [11] (by decide +kernel) (by decide +kernel)
set_option maxRecDepth 20000 in
theorem gX6_faces_X6_in : GoodIn wsX6_faces (va_wsS RX6 81 yX6_in wsX6_in) := goodIn_app (goodIn_of _ (by decide +kernel)) ggX6_faces_X6_in
set_option maxRecDepth 20000 in
theorem ggX6_faces_X6_unlike : GoodIn wsX6_faces wsX6_unlike := goodIn_r _ [20, 8, 21, 22, 23, 24, 25, 5, 26, 27, 1, 28, 29, 30, 31, 32, 33, 34, 35, 36, 37, 9, 10, 11, 38, 39, 40, 41, 42, 43, 44, 45, 46, 47, 48, 49, 50, 51, 52, 53, 54, 55, 56, 57, 58, 59, 60, 61, 62, 63, 64, 65, 66, 67, 68, 69, 70, 71, 72, 73, 74, 75, 76, 77, 78, 79, 80, 81, 82, 83, 84, 85, 86, 87, 88, 89, 90, 91, 92, 93, 94, 95, 96, 97, 98, 99, 100, 101, 102, 103, 104, 105, 106, 107, 108, 109, 110, 111, 112, 113, 114, 115, 116, 117] (by decide +kernel) (by decide +kernel)
set_option maxRecDepth 20000 in
theorem gX6_faces_X6_unlike : GoodIn wsX6_faces (wsV RX6 255 RX6 yX6_unlike wsX6_unlike) := goodIn_app (goodIn_of _ (by decide +kernel)) ggX6_faces_X6_unlike
theorem dX6_faces_0 : decode cX6_faces 0 = .ok (.aload_n 0, 1) := by decide +kernel
theorem dX6_faces_1 : decode cX6_faces 1 = .ok (.iload_n 1, 1) := by decide +kernel
theorem dX6_faces_2 : decode cX6_faces 2 = .ok (.invokevirtual 252, 3) := by decide +kernel
theorem dX6_faces_5 : decode cX6_faces 5 = .ok (.istore 4, 2) := by decide +kernel
theorem dX6_faces_7 : decode cX6_faces 7 = .ok (.iload 4, 2) := by decide +kernel
theorem dX6_faces_9 : decode cX6_faces 9 = .ok (.ifCond .eq 6, 3) := by decide +kernel
theorem dX6_faces_12 : decode cX6_faces 12 = .ok (.iload 4, 2) := by decide +kernel
theorem dX6_faces_14 : decode cX6_faces 14 = .ok (.ireturn, 1) := by decide +kernel
theorem dX6_faces_15 : decode cX6_faces 15 = .ok (.aload_n 0, 1) := by decide +kernel
theorem dX6_faces_16 : decode cX6_faces 16 = .ok (.iload_n 2, 1) := by decide +kernel
theorem dX6_faces_17 : decode cX6_faces 17 = .ok (.invokevirtual 183, 3) := by decide +kernel
theorem dX6_faces_20 : decode cX6_faces 20 = .ok (.ifCond .ne 6, 3) := by decide +kernel
theorem dX6_faces_23 : decode cX6_faces 23 = .ok (.bipush (-5), 2) := by decide +kernel
theorem dX6_faces_25 : decode cX6_faces 25 = .ok (.ireturn, 1) := by decide +kernel
theorem dX6_faces_26 : decode cX6_faces 26 = .ok (.iload_n 3, 1) := by decide +kernel
theorem dX6_faces_27 : decode cX6_faces 27 = .ok (.iconst 0, 1) := by decide +kernel
theorem dX6_faces_28 : decode cX6_faces 28 = .ok (.iconst 1, 1) := by decide +kernel
theorem dX6_faces_29 : decode cX6_faces 29 = .ok (.invokestatic 81, 3) := by decide +kernel
theorem dX6_faces_32 : decode cX6_faces 32 = .ok (.ifCond .ne 6, 3) := by decide +kernel
theorem dX6_faces_35 : decode cX6_faces 35 = .ok (.bipush (-7), 2) := by decide +kernel
theorem dX6_faces_37 : decode cX6_faces 37 = .ok (.ireturn, 1) := by decide +kernel
theorem dX6_faces_38 : decode cX6_faces 38 = .ok (.aload_n 0, 1) := by decide +kernel
theorem dX6_faces_39 : decode cX6_faces 39 = .ok (.getfield 16, 3) := by decide +kernel
theorem dX6_faces_42 : decode cX6_faces 42 = .ok (.iconst 3, 1) := by decide +kernel
theorem dX6_faces_43 : decode cX6_faces 43 = .ok (.iload_n 2, 1) := by decide +kernel
theorem dX6_faces_44 : decode cX6_faces 44 = .ok (.imul, 1) := by decide +kernel
theorem dX6_faces_45 : decode cX6_faces 45 = .ok (.iconst 1, 1) := by decide +kernel
theorem dX6_faces_46 : decode cX6_faces 46 = .ok (.iadd, 1) := by decide +kernel
theorem dX6_faces_47 : decode cX6_faces 47 = .ok (.iaload, 1) := by decide +kernel
theorem dX6_faces_48 : decode cX6_faces 48 = .ok (.istore 5, 2) := by decide +kernel
theorem dX6_faces_50 : decode cX6_faces 50 = .ok (.iconst 0, 1) := by decide +kernel
theorem dX6_faces_51 : decode cX6_faces 51 = .ok (.istore 6, 2) := by decide +kernel
theorem dX6_faces_53 : decode cX6_faces 53 = .ok (.iconst (-1), 1) := by decide +kernel
theorem dX6_faces_54 : decode cX6_faces 54 = .ok (.istore 7, 2) := by decide +kernel
theorem dX6_faces_56 : decode cX6_faces 56 = .ok (.iconst 0, 1) := by decide +kernel
theorem dX6_faces_57 : decode cX6_faces 57 = .ok (.istore 8, 2) := by decide +kernel
theorem dX6_faces_59 : decode cX6_faces 59 = .ok (.iload 8, 2) := by decide +kernel
theorem dX6_faces_61 : decode cX6_faces 61 = .ok (.bipush 99, 2) := by decide +kernel
theorem dX6_faces_63 : decode cX6_faces 63 = .ok (.if_icmp .gt 72, 3) := by decide +kernel
theorem dX6_faces_66 : decode cX6_faces 66 = .ok (.aload_n 0, 1) := by decide +kernel
theorem dX6_faces_67 : decode cX6_faces 67 = .ok (.getfield 16, 3) := by decide +kernel
theorem dX6_faces_70 : decode cX6_faces 70 = .ok (.iconst 3, 1) := by decide +kernel
theorem dX6_faces_71 : decode cX6_faces 71 = .ok (.iload_n 2, 1) := by decide +kernel
theorem dX6_faces_72 : decode cX6_faces 72 = .ok (.imul, 1) := by decide +kernel
theorem dX6_faces_73 : decode cX6_faces 73 = .ok (.iconst 1, 1) := by decide +kernel
theorem dX6_faces_74 : decode cX6_faces 74 = .ok (.iadd, 1) := by decide +kernel
theorem dX6_faces_75 : decode cX6_faces 75 = .ok (.iload 8, 2) := by decide +kernel
theorem dX6_faces_77 : decode cX6_faces 77 = .ok (.iastore, 1) := by decide +kernel
theorem dX6_faces_78 : decode cX6_faces 78 = .ok (.aload_n 0, 1) := by decide +kernel
theorem dX6_faces_79 : decode cX6_faces 79 = .ok (.iload_n 1, 1) := by decide +kernel
theorem dX6_faces_80 : decode cX6_faces 80 = .ok (.invokevirtual 255, 3) := by decide +kernel
theorem dX6_faces_83 : decode cX6_faces 83 = .ok (.iconst (-1), 1) := by decide +kernel
theorem dX6_faces_84 : decode cX6_faces 84 = .ok (.if_icmp .ne 7, 3) := by decide +kernel
theorem dX6_faces_87 : decode cX6_faces 87 = .ok (.iconst 1, 1) := by decide +kernel
theorem dX6_faces_88 : decode cX6_faces 88 = .ok (.goto 4, 3) := by decide +kernel
theorem dX6_faces_91 : decode cX6_faces 91 = .ok (.iconst 0, 1) := by decide +kernel
theorem dX6_faces_92 : decode cX6_faces 92 = .ok (.istore 9, 2) := by decide +kernel
theorem dX6_faces_94 : decode cX6_faces 94 = .ok (.iload 6, 2) := by decide +kernel
theorem dX6_faces_96 : decode cX6_faces 96 = .ok (.iload 9, 2) := by decide +kernel
theorem dX6_faces_98 : decode cX6_faces 98 = .ok (.ifCond .eq 7, 3) := by decide +kernel
theorem dX6_faces_101 : decode cX6_faces 101 = .ok (.iconst 1, 1) := by decide +kernel
theorem dX6_faces_102 : decode cX6_faces 102 = .ok (.goto 4, 3) := by decide +kernel
theorem dX6_faces_105 : decode cX6_faces 105 = .ok (.iconst 0, 1) := by decide +kernel
theorem dX6_faces_106 : decode cX6_faces 106 = .ok (.iadd, 1) := by decide +kernel
theorem dX6_faces_107 : decode cX6_faces 107 = .ok (.istore 6, 2) := by decide +kernel
theorem dX6_faces_109 : decode cX6_faces 109 = .ok (.iload 9, 2) := by decide +kernel
theorem dX6_faces_111 : decode cX6_faces 111 = .ok (.ifCond .eq 14, 3) := by decide +kernel
theorem dX6_faces_114 : decode cX6_faces 114 = .ok (.iload 7, 2) := by decide +kernel
theorem dX6_faces_116 : decode cX6_faces 116 = .ok (.iconst (-1), 1) := by decide +kernel
theorem dX6_faces_117 : decode cX6_faces 117 = .ok (.if_icmp .ne 8, 3) := by decide +kernel
theorem dX6_faces_120 : decode cX6_faces 120 = .ok (.iload 8, 2) := by decide +kernel
theorem dX6_faces_122 : decode cX6_faces 122 = .ok (.goto 5, 3) := by decide +kernel
theorem dX6_faces_125 : decode cX6_faces 125 = .ok (.iload 7, 2) := by decide +kernel
theorem dX6_faces_127 : decode cX6_faces 127 = .ok (.istore 7, 2) := by decide +kernel
theorem dX6_faces_129 : decode cX6_faces 129 = .ok (.iinc 8 1, 3) := by decide +kernel
theorem dX6_faces_132 : decode cX6_faces 132 = .ok (.goto (-73), 3) := by decide +kernel
theorem dX6_faces_135 : decode cX6_faces 135 = .ok (.aload_n 0, 1) := by decide +kernel
theorem dX6_faces_136 : decode cX6_faces 136 = .ok (.getfield 16, 3) := by decide +kernel
theorem dX6_faces_139 : decode cX6_faces 139 = .ok (.iconst 3, 1) := by decide +kernel
theorem dX6_faces_140 : decode cX6_faces 140 = .ok (.iload_n 2, 1) := by decide +kernel
theorem dX6_faces_141 : decode cX6_faces 141 = .ok (.imul, 1) := by decide +kernel
theorem dX6_faces_142 : decode cX6_faces 142 = .ok (.iconst 1, 1) := by decide +kernel
theorem dX6_faces_143 : decode cX6_faces 143 = .ok (.iadd, 1) := by decide +kernel
theorem dX6_faces_144 : decode cX6_faces 144 = .ok (.iload 5, 2) := by decide +kernel
theorem dX6_faces_146 : decode cX6_faces 146 = .ok (.iastore, 1) := by decide +kernel
theorem dX6_faces_147 : decode cX6_faces 147 = .ok (.iload_n 3, 1) := by decide +kernel
theorem dX6_faces_148 : decode cX6_faces 148 = .ok (.ifCond .ne 8, 3) := by decide +kernel
theorem dX6_faces_151 : decode cX6_faces 151 = .ok (.iload 6, 2) := by decide +kernel
theorem dX6_faces_153 : decode cX6_faces 153 = .ok (.goto 5, 3) := by decide +kernel
theorem dX6_faces_156 : decode cX6_faces 156 = .ok (.iload 7, 2) := by decide +kernel
theorem dX6_faces_158 : decode cX6_faces 158 = .ok (.ireturn, 1) := by decide +kernel
set_option maxRecDepth 20000 in
theorem ggX6_keens_X6_sheetWrong : GoodIn wsX6_keens wsX6_sheetWrong := goodIn_r _ [6, 7, 8, 9, 10, 5, 11, 75, 76, 77, 78, 79, 80, 81, 82, 83, 84, 85, 86, 87, 88, 89, 90, 91, 92, 93, 94, 95, 96, 97, 98, 99, 100, 101, 102, 103, 104, 105, 106, 107, 108, 109, 110, 111, 112] (by decide +kernel) (by decide +kernel)
set_option maxRecDepth 20000 in
theorem gX6_keens_X6_sheetWrong : GoodIn wsX6_keens (wsV RX6 252 RX6 yX6_sheetWrong wsX6_sheetWrong) := goodIn_app (goodIn_of _ (by decide +kernel)) ggX6_keens_X6_sheetWrong
set_option maxRecDepth 20000 in
theorem ggX6_keens_X6_in : GoodIn wsX6_keens wsX6_in := goodIn_r _ [11] (by decide +kernel) (by decide +kernel)
set_option maxRecDepth 20000 in
theorem gX6_keens_X6_in : GoodIn wsX6_keens (va_wsS RX6 81 yX6_in wsX6_in) := goodIn_app (goodIn_of _ (by decide +kernel)) ggX6_keens_X6_in
set_option maxRecDepth 20000 in
theorem ggX6_keens_X6_unlike : GoodIn wsX6_keens wsX6_unlike := goodIn_r _ [15, 8, 16, 17, 18, 19, 20, 5, 21, 22, 23, 24, 25, 26, 27, 28, 29, 30, 31, 32, 33, 9, 10, 11, 34, 35, 36, 37, 38, 39, 40, 1, 41, 42, 43, 44, 45, 46, 47, 48, 49, 50, 51, 52, 53, 54, 55, 56, 57, 58, 59, 60, 61, 62, 63, 64, 65, 66, 67, 68, 69, 70, 71, 72, 73, 74, 75, 76, 77, 78, 79, 80, 81, 82, 83, 84, 85, 86, 87, 88, 89, 90, 91, 92, 93, 94, 95, 96, 97, 98, 99, 100, 101, 102, 103, 104, 105, 106, 107, 108, 109, 110, 111, 112] (by decide +kernel) (by decide +kernel)
set_option maxRecDepth 20000 in
theorem gX6_keens_X6_unlike : GoodIn wsX6_keens (wsV RX6 255 RX6 yX6_unlike wsX6_unlike) := goodIn_app (goodIn_of _ (by decide +kernel)) ggX6_keens_X6_unlike
theorem dX6_keens_0 : decode cX6_keens 0 = .ok (.aload_n 0, 1) := by decide +kernel
theorem dX6_keens_1 : decode cX6_keens 1 = .ok (.iload_n 1, 1) := by decide +kernel
theorem dX6_keens_2 : decode cX6_keens 2 = .ok (.invokevirtual 252, 3) := by decide +kernel
theorem dX6_keens_5 : decode cX6_keens 5 = .ok (.istore 4, 2) := by decide +kernel
theorem dX6_keens_7 : decode cX6_keens 7 = .ok (.iload 4, 2) := by decide +kernel
theorem dX6_keens_9 : decode cX6_keens 9 = .ok (.ifCond .eq 6, 3) := by decide +kernel
theorem dX6_keens_12 : decode cX6_keens 12 = .ok (.iload 4, 2) := by decide +kernel
theorem dX6_keens_14 : decode cX6_keens 14 = .ok (.ireturn, 1) := by decide +kernel
theorem dX6_keens_15 : decode cX6_keens 15 = .ok (.iload_n 2, 1) := by decide +kernel
theorem dX6_keens_16 : decode cX6_keens 16 = .ok (.iconst 0, 1) := by decide +kernel
theorem dX6_keens_17 : decode cX6_keens 17 = .ok (.iconst 5, 1) := by decide +kernel
theorem dX6_keens_18 : decode cX6_keens 18 = .ok (.invokestatic 81, 3) := by decide +kernel
theorem dX6_keens_21 : decode cX6_keens 21 = .ok (.ifCond .ne 6, 3) := by decide +kernel
theorem dX6_keens_24 : decode cX6_keens 24 = .ok (.bipush (-5), 2) := by decide +kernel
theorem dX6_keens_26 : decode cX6_keens 26 = .ok (.ireturn, 1) := by decide +kernel
theorem dX6_keens_27 : decode cX6_keens 27 = .ok (.iload_n 3, 1) := by decide +kernel
theorem dX6_keens_28 : decode cX6_keens 28 = .ok (.iconst 0, 1) := by decide +kernel
theorem dX6_keens_29 : decode cX6_keens 29 = .ok (.iconst 1, 1) := by decide +kernel
theorem dX6_keens_30 : decode cX6_keens 30 = .ok (.invokestatic 81, 3) := by decide +kernel
theorem dX6_keens_33 : decode cX6_keens 33 = .ok (.ifCond .ne 6, 3) := by decide +kernel
theorem dX6_keens_36 : decode cX6_keens 36 = .ok (.bipush (-7), 2) := by decide +kernel
theorem dX6_keens_38 : decode cX6_keens 38 = .ok (.ireturn, 1) := by decide +kernel
theorem dX6_keens_39 : decode cX6_keens 39 = .ok (.aload_n 0, 1) := by decide +kernel
theorem dX6_keens_40 : decode cX6_keens 40 = .ok (.getfield 25, 3) := by decide +kernel
theorem dX6_keens_43 : decode cX6_keens 43 = .ok (.iload_n 2, 1) := by decide +kernel
theorem dX6_keens_44 : decode cX6_keens 44 = .ok (.iaload, 1) := by decide +kernel
theorem dX6_keens_45 : decode cX6_keens 45 = .ok (.istore 5, 2) := by decide +kernel
theorem dX6_keens_47 : decode cX6_keens 47 = .ok (.iconst 0, 1) := by decide +kernel
theorem dX6_keens_48 : decode cX6_keens 48 = .ok (.istore 6, 2) := by decide +kernel
theorem dX6_keens_50 : decode cX6_keens 50 = .ok (.iconst (-1), 1) := by decide +kernel
theorem dX6_keens_51 : decode cX6_keens 51 = .ok (.istore 7, 2) := by decide +kernel
theorem dX6_keens_53 : decode cX6_keens 53 = .ok (.iconst 0, 1) := by decide +kernel
theorem dX6_keens_54 : decode cX6_keens 54 = .ok (.istore 8, 2) := by decide +kernel
theorem dX6_keens_56 : decode cX6_keens 56 = .ok (.iload 8, 2) := by decide +kernel
theorem dX6_keens_58 : decode cX6_keens 58 = .ok (.bipush 99, 2) := by decide +kernel
theorem dX6_keens_60 : decode cX6_keens 60 = .ok (.if_icmp .gt 68, 3) := by decide +kernel
theorem dX6_keens_63 : decode cX6_keens 63 = .ok (.aload_n 0, 1) := by decide +kernel
theorem dX6_keens_64 : decode cX6_keens 64 = .ok (.getfield 25, 3) := by decide +kernel
theorem dX6_keens_67 : decode cX6_keens 67 = .ok (.iload_n 2, 1) := by decide +kernel
theorem dX6_keens_68 : decode cX6_keens 68 = .ok (.iload 8, 2) := by decide +kernel
theorem dX6_keens_70 : decode cX6_keens 70 = .ok (.iastore, 1) := by decide +kernel
theorem dX6_keens_71 : decode cX6_keens 71 = .ok (.aload_n 0, 1) := by decide +kernel
theorem dX6_keens_72 : decode cX6_keens 72 = .ok (.iload_n 1, 1) := by decide +kernel
theorem dX6_keens_73 : decode cX6_keens 73 = .ok (.invokevirtual 255, 3) := by decide +kernel
theorem dX6_keens_76 : decode cX6_keens 76 = .ok (.iconst (-1), 1) := by decide +kernel
theorem dX6_keens_77 : decode cX6_keens 77 = .ok (.if_icmp .ne 7, 3) := by decide +kernel
theorem dX6_keens_80 : decode cX6_keens 80 = .ok (.iconst 1, 1) := by decide +kernel
theorem dX6_keens_81 : decode cX6_keens 81 = .ok (.goto 4, 3) := by decide +kernel
theorem dX6_keens_84 : decode cX6_keens 84 = .ok (.iconst 0, 1) := by decide +kernel
theorem dX6_keens_85 : decode cX6_keens 85 = .ok (.istore 9, 2) := by decide +kernel
theorem dX6_keens_87 : decode cX6_keens 87 = .ok (.iload 6, 2) := by decide +kernel
theorem dX6_keens_89 : decode cX6_keens 89 = .ok (.iload 9, 2) := by decide +kernel
theorem dX6_keens_91 : decode cX6_keens 91 = .ok (.ifCond .eq 7, 3) := by decide +kernel
theorem dX6_keens_94 : decode cX6_keens 94 = .ok (.iconst 1, 1) := by decide +kernel
theorem dX6_keens_95 : decode cX6_keens 95 = .ok (.goto 4, 3) := by decide +kernel
theorem dX6_keens_98 : decode cX6_keens 98 = .ok (.iconst 0, 1) := by decide +kernel
theorem dX6_keens_99 : decode cX6_keens 99 = .ok (.iadd, 1) := by decide +kernel
theorem dX6_keens_100 : decode cX6_keens 100 = .ok (.istore 6, 2) := by decide +kernel
theorem dX6_keens_102 : decode cX6_keens 102 = .ok (.iload 9, 2) := by decide +kernel
theorem dX6_keens_104 : decode cX6_keens 104 = .ok (.ifCond .eq 14, 3) := by decide +kernel
theorem dX6_keens_107 : decode cX6_keens 107 = .ok (.iload 7, 2) := by decide +kernel
theorem dX6_keens_109 : decode cX6_keens 109 = .ok (.iconst (-1), 1) := by decide +kernel
theorem dX6_keens_110 : decode cX6_keens 110 = .ok (.if_icmp .ne 8, 3) := by decide +kernel
theorem dX6_keens_113 : decode cX6_keens 113 = .ok (.iload 8, 2) := by decide +kernel
theorem dX6_keens_115 : decode cX6_keens 115 = .ok (.goto 5, 3) := by decide +kernel
theorem dX6_keens_118 : decode cX6_keens 118 = .ok (.iload 7, 2) := by decide +kernel
theorem dX6_keens_120 : decode cX6_keens 120 = .ok (.istore 7, 2) := by decide +kernel
theorem dX6_keens_122 : decode cX6_keens 122 = .ok (.iinc 8 1, 3) := by decide +kernel
theorem dX6_keens_125 : decode cX6_keens 125 = .ok (.goto (-69), 3) := by decide +kernel
theorem dX6_keens_128 : decode cX6_keens 128 = .ok (.aload_n 0, 1) := by decide +kernel
theorem dX6_keens_129 : decode cX6_keens 129 = .ok (.getfield 25, 3) := by decide +kernel
theorem dX6_keens_132 : decode cX6_keens 132 = .ok (.iload_n 2, 1) := by decide +kernel
theorem dX6_keens_133 : decode cX6_keens 133 = .ok (.iload 5, 2) := by decide +kernel
theorem dX6_keens_135 : decode cX6_keens 135 = .ok (.iastore, 1) := by decide +kernel
theorem dX6_keens_136 : decode cX6_keens 136 = .ok (.iload_n 3, 1) := by decide +kernel
theorem dX6_keens_137 : decode cX6_keens 137 = .ok (.ifCond .ne 8, 3) := by decide +kernel
theorem dX6_keens_140 : decode cX6_keens 140 = .ok (.iload 6, 2) := by decide +kernel
theorem dX6_keens_142 : decode cX6_keens 142 = .ok (.goto 5, 3) := by decide +kernel
theorem dX6_keens_145 : decode cX6_keens 145 = .ok (.iload 7, 2) := by decide +kernel
theorem dX6_keens_147 : decode cX6_keens 147 = .ok (.ireturn, 1) := by decide +kernel
set_option maxRecDepth 20000 in
theorem ggX6_burnt_X6_sheetWrong : GoodIn wsX6_burnt wsX6_sheetWrong := goodIn_r _ [6, 7, 8, 9, 10, 5, 11, 75, 76, 77, 78, 79, 80, 81, 82, 83, 84, 85, 86, 87, 88, 89, 90, 91, 92, 93, 94, 95, 96, 97, 98, 99, 100, 101, 102, 103, 104, 105, 106, 107, 108, 109, 110, 111, 112] (by decide +kernel) (by decide +kernel)
set_option maxRecDepth 20000 in
theorem gX6_burnt_X6_sheetWrong : GoodIn wsX6_burnt (wsV RX6 252 RX6 yX6_sheetWrong wsX6_sheetWrong) := goodIn_app (goodIn_of _ (by decide +kernel)) ggX6_burnt_X6_sheetWrong
set_option maxRecDepth 20000 in
theorem ggX6_burnt_X6_unlike : GoodIn wsX6_burnt wsX6_unlike := goodIn_r _ [15, 8, 16, 17, 18, 19, 20, 5, 21, 22, 23, 1, 24, 25, 26, 27, 28, 29, 30, 31, 32, 9, 10, 11, 33, 34, 35, 36, 37, 38, 39, 40, 41, 42, 43, 44, 45, 46, 47, 48, 49, 50, 51, 52, 53, 54, 55, 56, 57, 58, 59, 60, 61, 62, 63, 64, 65, 66, 67, 68, 69, 70, 71, 72, 73, 74, 75, 76, 77, 78, 79, 80, 81, 82, 83, 84, 85, 86, 87, 88, 89, 90, 91, 92, 93, 94, 95, 96, 97, 98, 99, 100, 101, 102, 103, 104, 105, 106, 107, 108, 109, 110, 111, 112] (by decide +kernel) (by decide +kernel)
set_option maxRecDepth 20000 in
theorem gX6_burnt_X6_unlike : GoodIn wsX6_burnt (wsV RX6 255 RX6 yX6_unlike wsX6_unlike) := goodIn_app (goodIn_of _ (by decide +kernel)) ggX6_burnt_X6_unlike
theorem dX6_burnt_0 : decode cX6_burnt 0 = .ok (.aload_n 0, 1) := by decide +kernel
theorem dX6_burnt_1 : decode cX6_burnt 1 = .ok (.iload_n 1, 1) := by decide +kernel
theorem dX6_burnt_2 : decode cX6_burnt 2 = .ok (.invokevirtual 252, 3) := by decide +kernel
theorem dX6_burnt_5 : decode cX6_burnt 5 = .ok (.istore_n 2, 1) := by decide +kernel
theorem dX6_burnt_6 : decode cX6_burnt 6 = .ok (.iload_n 2, 1) := by decide +kernel
theorem dX6_burnt_7 : decode cX6_burnt 7 = .ok (.ifCond .eq 5, 3) := by decide +kernel
theorem dX6_burnt_10 : decode cX6_burnt 10 = .ok (.iload_n 2, 1) := by decide +kernel
theorem dX6_burnt_11 : decode cX6_burnt 11 = .ok (.ireturn, 1) := by decide +kernel
theorem dX6_burnt_12 : decode cX6_burnt 12 = .ok (.iconst 0, 1) := by decide +kernel
theorem dX6_burnt_13 : decode cX6_burnt 13 = .ok (.istore_n 3, 1) := by decide +kernel
theorem dX6_burnt_14 : decode cX6_burnt 14 = .ok (.iconst 0, 1) := by decide +kernel
theorem dX6_burnt_15 : decode cX6_burnt 15 = .ok (.istore 4, 2) := by decide +kernel
theorem dX6_burnt_17 : decode cX6_burnt 17 = .ok (.iload 4, 2) := by decide +kernel
theorem dX6_burnt_19 : decode cX6_burnt 19 = .ok (.bipush 8, 2) := by decide +kernel
theorem dX6_burnt_21 : decode cX6_burnt 21 = .ok (.if_icmp .ge 67, 3) := by decide +kernel
theorem dX6_burnt_24 : decode cX6_burnt 24 = .ok (.aload_n 0, 1) := by decide +kernel
theorem dX6_burnt_25 : decode cX6_burnt 25 = .ok (.getfield 19, 3) := by decide +kernel
theorem dX6_burnt_28 : decode cX6_burnt 28 = .ok (.iconst 3, 1) := by decide +kernel
theorem dX6_burnt_29 : decode cX6_burnt 29 = .ok (.iload 4, 2) := by decide +kernel
theorem dX6_burnt_31 : decode cX6_burnt 31 = .ok (.imul, 1) := by decide +kernel
theorem dX6_burnt_32 : decode cX6_burnt 32 = .ok (.iaload, 1) := by decide +kernel
theorem dX6_burnt_33 : decode cX6_burnt 33 = .ok (.istore 5, 2) := by decide +kernel
theorem dX6_burnt_35 : decode cX6_burnt 35 = .ok (.iload 5, 2) := by decide +kernel
theorem dX6_burnt_37 : decode cX6_burnt 37 = .ok (.iconst (-1), 1) := by decide +kernel
theorem dX6_burnt_38 : decode cX6_burnt 38 = .ok (.if_icmp .eq 44, 3) := by decide +kernel
theorem dX6_burnt_41 : decode cX6_burnt 41 = .ok (.aload_n 0, 1) := by decide +kernel
theorem dX6_burnt_42 : decode cX6_burnt 42 = .ok (.getfield 19, 3) := by decide +kernel
theorem dX6_burnt_45 : decode cX6_burnt 45 = .ok (.iconst 3, 1) := by decide +kernel
theorem dX6_burnt_46 : decode cX6_burnt 46 = .ok (.iload 4, 2) := by decide +kernel
theorem dX6_burnt_48 : decode cX6_burnt 48 = .ok (.imul, 1) := by decide +kernel
theorem dX6_burnt_49 : decode cX6_burnt 49 = .ok (.iconst (-1), 1) := by decide +kernel
theorem dX6_burnt_50 : decode cX6_burnt 50 = .ok (.iastore, 1) := by decide +kernel
theorem dX6_burnt_51 : decode cX6_burnt 51 = .ok (.iload_n 3, 1) := by decide +kernel
theorem dX6_burnt_52 : decode cX6_burnt 52 = .ok (.aload_n 0, 1) := by decide +kernel
theorem dX6_burnt_53 : decode cX6_burnt 53 = .ok (.iload_n 1, 1) := by decide +kernel
theorem dX6_burnt_54 : decode cX6_burnt 54 = .ok (.invokevirtual 255, 3) := by decide +kernel
theorem dX6_burnt_57 : decode cX6_burnt 57 = .ok (.iconst (-1), 1) := by decide +kernel
theorem dX6_burnt_58 : decode cX6_burnt 58 = .ok (.if_icmp .ne 10, 3) := by decide +kernel
theorem dX6_burnt_61 : decode cX6_burnt 61 = .ok (.iconst 1, 1) := by decide +kernel
theorem dX6_burnt_62 : decode cX6_burnt 62 = .ok (.iload 4, 2) := by decide +kernel
theorem dX6_burnt_64 : decode cX6_burnt 64 = .ok (.ishl, 1) := by decide +kernel
theorem dX6_burnt_65 : decode cX6_burnt 65 = .ok (.goto 4, 3) := by decide +kernel
theorem dX6_burnt_68 : decode cX6_burnt 68 = .ok (.iconst 0, 1) := by decide +kernel
theorem dX6_burnt_69 : decode cX6_burnt 69 = .ok (.ior, 1) := by decide +kernel
theorem dX6_burnt_70 : decode cX6_burnt 70 = .ok (.istore_n 3, 1) := by decide +kernel
theorem dX6_burnt_71 : decode cX6_burnt 71 = .ok (.aload_n 0, 1) := by decide +kernel
theorem dX6_burnt_72 : decode cX6_burnt 72 = .ok (.getfield 19, 3) := by decide +kernel
theorem dX6_burnt_75 : decode cX6_burnt 75 = .ok (.iconst 3, 1) := by decide +kernel
theorem dX6_burnt_76 : decode cX6_burnt 76 = .ok (.iload 4, 2) := by decide +kernel
theorem dX6_burnt_78 : decode cX6_burnt 78 = .ok (.imul, 1) := by decide +kernel
theorem dX6_burnt_79 : decode cX6_burnt 79 = .ok (.iload 5, 2) := by decide +kernel
theorem dX6_burnt_81 : decode cX6_burnt 81 = .ok (.iastore, 1) := by decide +kernel
theorem dX6_burnt_82 : decode cX6_burnt 82 = .ok (.iinc 4 1, 3) := by decide +kernel
theorem dX6_burnt_85 : decode cX6_burnt 85 = .ok (.goto (-68), 3) := by decide +kernel
theorem dX6_burnt_88 : decode cX6_burnt 88 = .ok (.iload_n 3, 1) := by decide +kernel
theorem dX6_burnt_89 : decode cX6_burnt 89 = .ok (.ireturn, 1) := by decide +kernel
set_option maxRecDepth 20000 in
theorem ggX6_laws_X6_sheetWrong : GoodIn wsX6_laws wsX6_sheetWrong := goodIn_r _ [7, 8, 9, 10, 11, 6, 12, 76, 77, 78, 79, 80, 81, 82, 83, 84, 85, 86, 87, 88, 89, 90, 91, 92, 93, 94, 95, 96, 97, 98, 99, 100, 101, 102, 103, 104, 105, 106, 107, 108, 109, 110, 111, 112, 113] (by decide +kernel) (by decide +kernel)
set_option maxRecDepth 20000 in
theorem gX6_laws_X6_sheetWrong : GoodIn wsX6_laws (wsV RX6 252 RX6 yX6_sheetWrong wsX6_sheetWrong) := goodIn_app (goodIn_of _ (by decide +kernel)) ggX6_laws_X6_sheetWrong
set_option maxRecDepth 20000 in
theorem ggX6_laws_X6_unlike : GoodIn wsX6_laws wsX6_unlike := goodIn_r _ [16, 9, 17, 18, 19, 20, 21, 6, 22, 23, 24, 25, 26, 27, 28, 29, 30, 31, 32, 33, 34, 10, 11, 12, 35, 36, 37, 38, 39, 40, 41, 42, 43, 44, 45, 46, 47, 48, 49, 50, 51, 52, 53, 54, 55, 56, 57, 58, 59, 60, 61, 62, 63, 64, 65, 1, 66, 67, 68, 69, 70, 71, 72, 73, 74, 75, 76, 77, 78, 79, 80, 81, 82, 83, 84, 85, 86, 87, 88, 89, 90, 91, 92, 93, 94, 95, 96, 97, 98, 99, 100, 101, 102, 103, 104, 105, 106, 107, 108, 109, 110, 111, 112, 113] (by decide +kernel) (by decide +kernel)
set_option maxRecDepth 20000 in
theorem gX6_laws_X6_unlike : GoodIn wsX6_laws (wsV RX6 255 RX6 yX6_unlike wsX6_unlike) := goodIn_app (goodIn_of _ (by decide +kernel)) ggX6_laws_X6_unlike
theorem dX6_laws_0 : decode cX6_laws 0 = .ok (.aload_n 0, 1) := by decide +kernel
theorem dX6_laws_1 : decode cX6_laws 1 = .ok (.iload_n 1, 1) := by decide +kernel
theorem dX6_laws_2 : decode cX6_laws 2 = .ok (.invokevirtual 252, 3) := by decide +kernel
theorem dX6_laws_5 : decode cX6_laws 5 = .ok (.istore_n 2, 1) := by decide +kernel
theorem dX6_laws_6 : decode cX6_laws 6 = .ok (.iload_n 2, 1) := by decide +kernel
theorem dX6_laws_7 : decode cX6_laws 7 = .ok (.ifCond .eq 5, 3) := by decide +kernel
theorem dX6_laws_10 : decode cX6_laws 10 = .ok (.iload_n 2, 1) := by decide +kernel
theorem dX6_laws_11 : decode cX6_laws 11 = .ok (.ireturn, 1) := by decide +kernel
theorem dX6_laws_12 : decode cX6_laws 12 = .ok (.aload_n 0, 1) := by decide +kernel
theorem dX6_laws_13 : decode cX6_laws 13 = .ok (.getfield 102, 3) := by decide +kernel
theorem dX6_laws_16 : decode cX6_laws 16 = .ok (.istore_n 3, 1) := by decide +kernel
theorem dX6_laws_17 : decode cX6_laws 17 = .ok (.iconst 0, 1) := by decide +kernel
theorem dX6_laws_18 : decode cX6_laws 18 = .ok (.istore 4, 2) := by decide +kernel
theorem dX6_laws_20 : decode cX6_laws 20 = .ok (.iconst 0, 1) := by decide +kernel
theorem dX6_laws_21 : decode cX6_laws 21 = .ok (.istore 5, 2) := by decide +kernel
theorem dX6_laws_23 : decode cX6_laws 23 = .ok (.iload 5, 2) := by decide +kernel
theorem dX6_laws_25 : decode cX6_laws 25 = .ok (.aload_n 0, 1) := by decide +kernel
theorem dX6_laws_26 : decode cX6_laws 26 = .ok (.getfield 99, 3) := by decide +kernel
theorem dX6_laws_29 : decode cX6_laws 29 = .ok (.if_icmp .ge 37, 3) := by decide +kernel
theorem dX6_laws_32 : decode cX6_laws 32 = .ok (.aload_n 0, 1) := by decide +kernel
theorem dX6_laws_33 : decode cX6_laws 33 = .ok (.iload 5, 2) := by decide +kernel
theorem dX6_laws_35 : decode cX6_laws 35 = .ok (.putfield 102, 3) := by decide +kernel
theorem dX6_laws_38 : decode cX6_laws 38 = .ok (.iload 4, 2) := by decide +kernel
theorem dX6_laws_40 : decode cX6_laws 40 = .ok (.aload_n 0, 1) := by decide +kernel
theorem dX6_laws_41 : decode cX6_laws 41 = .ok (.iload_n 1, 1) := by decide +kernel
theorem dX6_laws_42 : decode cX6_laws 42 = .ok (.invokevirtual 255, 3) := by decide +kernel
theorem dX6_laws_45 : decode cX6_laws 45 = .ok (.iconst (-1), 1) := by decide +kernel
theorem dX6_laws_46 : decode cX6_laws 46 = .ok (.if_icmp .ne 10, 3) := by decide +kernel
theorem dX6_laws_49 : decode cX6_laws 49 = .ok (.iconst 1, 1) := by decide +kernel
theorem dX6_laws_50 : decode cX6_laws 50 = .ok (.iload 5, 2) := by decide +kernel
theorem dX6_laws_52 : decode cX6_laws 52 = .ok (.ishl, 1) := by decide +kernel
theorem dX6_laws_53 : decode cX6_laws 53 = .ok (.goto 4, 3) := by decide +kernel
theorem dX6_laws_56 : decode cX6_laws 56 = .ok (.iconst 0, 1) := by decide +kernel
theorem dX6_laws_57 : decode cX6_laws 57 = .ok (.ior, 1) := by decide +kernel
theorem dX6_laws_58 : decode cX6_laws 58 = .ok (.istore 4, 2) := by decide +kernel
theorem dX6_laws_60 : decode cX6_laws 60 = .ok (.iinc 5 1, 3) := by decide +kernel
theorem dX6_laws_63 : decode cX6_laws 63 = .ok (.goto (-40), 3) := by decide +kernel
theorem dX6_laws_66 : decode cX6_laws 66 = .ok (.aload_n 0, 1) := by decide +kernel
theorem dX6_laws_67 : decode cX6_laws 67 = .ok (.iload_n 3, 1) := by decide +kernel
theorem dX6_laws_68 : decode cX6_laws 68 = .ok (.putfield 102, 3) := by decide +kernel
theorem dX6_laws_71 : decode cX6_laws 71 = .ok (.iload 4, 2) := by decide +kernel
theorem dX6_laws_73 : decode cX6_laws 73 = .ok (.ireturn, 1) := by decide +kernel
set_option maxRecDepth 20000 in
theorem ggX6_film_X6_in : GoodIn wsX6_film wsX6_in := goodIn_r _ [8] (by decide +kernel) (by decide +kernel)
set_option maxRecDepth 20000 in
theorem gX6_film_X6_in : GoodIn wsX6_film (va_wsS RX6 81 yX6_in wsX6_in) := goodIn_app (goodIn_of _ (by decide +kernel)) ggX6_film_X6_in
set_option maxRecDepth 20000 in
theorem ggX6_film_X6_keeps : GoodIn wsX6_film wsX6_keeps := goodIn_r _ [12, 13, 14, 15, 4, 16, 67, 68, 69, 70, 71, 72, 73, 74, 75, 76, 77, 78, 79, 80, 81, 82, 83, 84, 85, 86, 87, 88, 89, 90, 91, 92, 93, 94, 95, 96, 97, 98, 99, 100, 101, 102, 103, 104] (by decide +kernel) (by decide +kernel)
set_option maxRecDepth 20000 in
theorem gX6_film_X6_keeps : GoodIn wsX6_film (wsV RX6 216 RX6 yX6_keeps wsX6_keeps) := goodIn_app (goodIn_of _ (by decide +kernel)) ggX6_film_X6_keeps
set_option maxRecDepth 20000 in
theorem ggX6_film_X6_hourOf : GoodIn wsX6_film wsX6_hourOf := goodIn_r _ [20, 16, 15, 4, 14, 21, 22, 23, 7, 24, 5, 6, 8, 25, 26, 27, 28, 29, 30, 31, 32, 33, 34, 35, 36, 37, 38, 39, 40, 41, 42, 43, 44, 45, 46, 47, 48, 49, 50, 51, 52, 53, 54, 55, 56, 57, 58, 59, 60, 61, 62, 67, 68, 69, 70, 71, 72, 73, 74, 75, 76, 77, 78, 79, 80, 81, 82, 83, 84, 85, 86, 87, 88, 89, 90, 91, 92, 93, 94, 95, 96, 97, 98, 99, 100, 101, 102, 103, 104] (by decide +kernel) (by decide +kernel)
set_option maxRecDepth 20000 in
theorem gX6_film_X6_hourOf : GoodIn wsX6_film (wsV RX6 213 RX6 yX6_hourOf wsX6_hourOf) := goodIn_app (goodIn_of _ (by decide +kernel)) ggX6_film_X6_hourOf
set_option maxRecDepth 20000 in
theorem ggX6_film_X6_onesOf : GoodIn wsX6_film wsX6_onesOf := goodIn_r _ [46] (by decide +kernel) (by decide +kernel)
set_option maxRecDepth 20000 in
theorem gX6_film_X6_onesOf : GoodIn wsX6_film (va_wsS RX6 177 yX6_onesOf wsX6_onesOf) := goodIn_app (goodIn_of _ (by decide +kernel)) ggX6_film_X6_onesOf
set_option maxRecDepth 20000 in
theorem ggX6_film_X6_lays : GoodIn wsX6_film wsX6_lays := goodIn_r _ [66, 14, 13, 15, 4, 16, 67, 68, 69, 70, 71, 72, 73, 74, 75, 76, 77, 78, 79, 80, 81, 82, 83, 84, 85, 86, 87, 88, 89, 90, 91, 92, 93, 94, 95, 96, 97, 98, 99, 100, 101, 102, 103, 104] (by decide +kernel) (by decide +kernel)
set_option maxRecDepth 20000 in
theorem gX6_film_X6_lays : GoodIn wsX6_film (wsV RX6 222 RX6 yX6_lays wsX6_lays) := goodIn_app (goodIn_of _ (by decide +kernel)) ggX6_film_X6_lays
theorem dX6_film_0 : decode cX6_film 0 = .ok (.iload_n 1, 1) := by decide +kernel
theorem dX6_film_1 : decode cX6_film 1 = .ok (.iconst 0, 1) := by decide +kernel
theorem dX6_film_2 : decode cX6_film 2 = .ok (.iconst 3, 1) := by decide +kernel
theorem dX6_film_3 : decode cX6_film 3 = .ok (.invokestatic 81, 3) := by decide +kernel
theorem dX6_film_6 : decode cX6_film 6 = .ok (.ifCond .ne 6, 3) := by decide +kernel
theorem dX6_film_9 : decode cX6_film 9 = .ok (.bipush (-2), 2) := by decide +kernel
theorem dX6_film_11 : decode cX6_film 11 = .ok (.ireturn, 1) := by decide +kernel
theorem dX6_film_12 : decode cX6_film 12 = .ok (.iload_n 2, 1) := by decide +kernel
theorem dX6_film_13 : decode cX6_film 13 = .ok (.iconst 0, 1) := by decide +kernel
theorem dX6_film_14 : decode cX6_film 14 = .ok (.bipush 20, 2) := by decide +kernel
theorem dX6_film_16 : decode cX6_film 16 = .ok (.invokestatic 81, 3) := by decide +kernel
theorem dX6_film_19 : decode cX6_film 19 = .ok (.ifCond .ne 6, 3) := by decide +kernel
theorem dX6_film_22 : decode cX6_film 22 = .ok (.bipush (-7), 2) := by decide +kernel
theorem dX6_film_24 : decode cX6_film 24 = .ok (.ireturn, 1) := by decide +kernel
theorem dX6_film_25 : decode cX6_film 25 = .ok (.aload_n 0, 1) := by decide +kernel
theorem dX6_film_26 : decode cX6_film 26 = .ok (.getfield 43, 3) := by decide +kernel
theorem dX6_film_29 : decode cX6_film 29 = .ok (.iload_n 1, 1) := by decide +kernel
theorem dX6_film_30 : decode cX6_film 30 = .ok (.iconst 0, 1) := by decide +kernel
theorem dX6_film_31 : decode cX6_film 31 = .ok (.iastore, 1) := by decide +kernel
theorem dX6_film_32 : decode cX6_film 32 = .ok (.aload_n 0, 1) := by decide +kernel
theorem dX6_film_33 : decode cX6_film 33 = .ok (.getfield 46, 3) := by decide +kernel
theorem dX6_film_36 : decode cX6_film 36 = .ok (.iload_n 1, 1) := by decide +kernel
theorem dX6_film_37 : decode cX6_film 37 = .ok (.iload_n 2, 1) := by decide +kernel
theorem dX6_film_38 : decode cX6_film 38 = .ok (.iastore, 1) := by decide +kernel
theorem dX6_film_39 : decode cX6_film 39 = .ok (.aload_n 0, 1) := by decide +kernel
theorem dX6_film_40 : decode cX6_film 40 = .ok (.invokevirtual 216, 3) := by decide +kernel
theorem dX6_film_43 : decode cX6_film 43 = .ok (.iconst 0, 1) := by decide +kernel
theorem dX6_film_44 : decode cX6_film 44 = .ok (.istore_n 3, 1) := by decide +kernel
theorem dX6_film_45 : decode cX6_film 45 = .ok (.iload_n 3, 1) := by decide +kernel
theorem dX6_film_46 : decode cX6_film 46 = .ok (.bipush 40, 2) := by decide +kernel
theorem dX6_film_48 : decode cX6_film 48 = .ok (.if_icmp .ge 49, 3) := by decide +kernel
theorem dX6_film_51 : decode cX6_film 51 = .ok (.aload_n 0, 1) := by decide +kernel
theorem dX6_film_52 : decode cX6_film 52 = .ok (.getfield 49, 3) := by decide +kernel
theorem dX6_film_55 : decode cX6_film 55 = .ok (.bipush 40, 2) := by decide +kernel
theorem dX6_film_57 : decode cX6_film 57 = .ok (.iload_n 1, 1) := by decide +kernel
theorem dX6_film_58 : decode cX6_film 58 = .ok (.imul, 1) := by decide +kernel
theorem dX6_film_59 : decode cX6_film 59 = .ok (.iload_n 3, 1) := by decide +kernel
theorem dX6_film_60 : decode cX6_film 60 = .ok (.iadd, 1) := by decide +kernel
theorem dX6_film_61 : decode cX6_film 61 = .ok (.iconst 0, 1) := by decide +kernel
theorem dX6_film_62 : decode cX6_film 62 = .ok (.iastore, 1) := by decide +kernel
theorem dX6_film_63 : decode cX6_film 63 = .ok (.iload_n 3, 1) := by decide +kernel
theorem dX6_film_64 : decode cX6_film 64 = .ok (.iload_n 2, 1) := by decide +kernel
theorem dX6_film_65 : decode cX6_film 65 = .ok (.if_icmp .ge 26, 3) := by decide +kernel
theorem dX6_film_68 : decode cX6_film 68 = .ok (.aload_n 0, 1) := by decide +kernel
theorem dX6_film_69 : decode cX6_film 69 = .ok (.invokevirtual 213, 3) := by decide +kernel
theorem dX6_film_72 : decode cX6_film 72 = .ok (.pop, 1) := by decide +kernel
theorem dX6_film_73 : decode cX6_film 73 = .ok (.aload_n 0, 1) := by decide +kernel
theorem dX6_film_74 : decode cX6_film 74 = .ok (.getfield 49, 3) := by decide +kernel
theorem dX6_film_77 : decode cX6_film 77 = .ok (.bipush 40, 2) := by decide +kernel
theorem dX6_film_79 : decode cX6_film 79 = .ok (.iload_n 1, 1) := by decide +kernel
theorem dX6_film_80 : decode cX6_film 80 = .ok (.imul, 1) := by decide +kernel
theorem dX6_film_81 : decode cX6_film 81 = .ok (.iload_n 3, 1) := by decide +kernel
theorem dX6_film_82 : decode cX6_film 82 = .ok (.iadd, 1) := by decide +kernel
theorem dX6_film_83 : decode cX6_film 83 = .ok (.aload_n 0, 1) := by decide +kernel
theorem dX6_film_84 : decode cX6_film 84 = .ok (.getfield 109, 3) := by decide +kernel
theorem dX6_film_87 : decode cX6_film 87 = .ok (.invokestatic 177, 3) := by decide +kernel
theorem dX6_film_90 : decode cX6_film 90 = .ok (.iastore, 1) := by decide +kernel
theorem dX6_film_91 : decode cX6_film 91 = .ok (.iinc 3 1, 3) := by decide +kernel
theorem dX6_film_94 : decode cX6_film 94 = .ok (.goto (-49), 3) := by decide +kernel
theorem dX6_film_97 : decode cX6_film 97 = .ok (.aload_n 0, 1) := by decide +kernel
theorem dX6_film_98 : decode cX6_film 98 = .ok (.invokevirtual 222, 3) := by decide +kernel
theorem dX6_film_101 : decode cX6_film 101 = .ok (.iload_n 2, 1) := by decide +kernel
theorem dX6_film_102 : decode cX6_film 102 = .ok (.ireturn, 1) := by decide +kernel
set_option maxRecDepth 20000 in
theorem ggX6_assizes_X6_keeps : GoodIn wsX6_assizes wsX6_keeps := goodIn_r _ [11, 12, 13, 14, 5, 15, 93, 94, 95, 96, 97, 98, 99, 100, 101, 102, 103, 104, 105, 106, 107, 108, 109, 110, 111, 112, 113, 114, 115, 116, 117, 118, 119, 120, 121, 122, 123, 124, 125, 126, 127, 128, 129, 130] (by decide +kernel) (by decide +kernel)
set_option maxRecDepth 20000 in
theorem gX6_assizes_X6_keeps : GoodIn wsX6_assizes (wsV RX6 216 RX6 yX6_keeps wsX6_keeps) := goodIn_app (goodIn_of _ (by decide +kernel)) ggX6_assizes_X6_keeps
set_option maxRecDepth 20000 in
theorem ggX6_assizes_X6_within : GoodIn wsX6_assizes wsX6_within := goodIn_r _ [18] (by decide +kernel) (by decide +kernel)
set_option maxRecDepth 20000 in
theorem gX6_assizes_X6_within : GoodIn wsX6_assizes (va_wsS RX6 85 yX6_within wsX6_within) := goodIn_app (goodIn_of _ (by decide +kernel)) ggX6_assizes_X6_within
set_option maxRecDepth 20000 in
theorem ggX6_assizes_X6_can : GoodIn wsX6_assizes wsX6_can := goodIn_r _ [22, 13, 23, 24, 25, 10, 26, 27, 28, 29, 30, 14, 31, 32, 33, 16, 17, 18, 93, 94, 95, 96, 97, 98, 99, 100, 101, 102, 103, 104, 105, 106, 107, 108, 109, 110, 111, 112, 113, 114, 115, 116, 117, 118, 119, 120, 121, 122, 123, 124, 125, 126, 127, 128, 129, 130] (by decide +kernel) (by decide +kernel)
set_option maxRecDepth 20000 in
theorem gX6_assizes_X6_can : GoodIn wsX6_assizes (wsV RX6 231 RX6 yX6_can wsX6_can) := goodIn_app (goodIn_of _ (by decide +kernel)) ggX6_assizes_X6_can
set_option maxRecDepth 20000 in
theorem ggX6_assizes_X6_dropOf : GoodIn wsX6_assizes wsX6_dropOf := goodIn_r _ [37, 14, 38, 39, 40, 10, 41, 13, 42, 43, 44, 45, 46, 47, 48, 49, 50, 51, 15, 5, 23, 24, 25, 26, 27, 28, 29, 30, 31, 32, 33, 16, 17, 18, 52, 53, 54, 55, 56, 57, 58, 59, 60, 61, 62, 63, 64, 65, 66, 67, 68, 69, 70, 93, 94, 95, 96, 97, 98, 99, 100, 101, 102, 103, 104, 105, 106, 107, 108, 109, 110, 111, 112, 113, 114, 115, 116, 117, 118, 119, 120, 121, 122, 123, 124, 125, 126, 127, 128, 129, 130] (by decide +kernel) (by decide +kernel)
set_option maxRecDepth 20000 in
theorem gX6_assizes_X6_dropOf : GoodIn wsX6_assizes (wsV RX6 210 RX6 yX6_dropOf wsX6_dropOf) := goodIn_app (goodIn_of _ (by decide +kernel)) ggX6_assizes_X6_dropOf
set_option maxRecDepth 20000 in
theorem ggX6_assizes_X6_hourOf : GoodIn wsX6_assizes wsX6_hourOf := goodIn_r _ [74, 15, 14, 5, 13, 27, 28, 29, 10, 30, 31, 32, 33, 16, 17, 18, 75, 76, 77, 78, 79, 80, 81, 82, 83, 42, 43, 47, 48, 49, 50, 51, 44, 45, 46, 23, 24, 25, 26, 52, 53, 54, 55, 56, 57, 58, 59, 60, 61, 62, 63, 93, 94, 95, 96, 97, 98, 99, 100, 101, 102, 103, 104, 105, 106, 107, 108, 109, 110, 111, 112, 113, 114, 115, 116, 117, 118, 119, 120, 121, 122, 123, 124, 125, 126, 127, 128, 129, 130] (by decide +kernel) (by decide +kernel)
set_option maxRecDepth 20000 in
theorem gX6_assizes_X6_hourOf : GoodIn wsX6_assizes (wsV RX6 213 RX6 yX6_hourOf wsX6_hourOf) := goodIn_app (goodIn_of _ (by decide +kernel)) ggX6_assizes_X6_hourOf
set_option maxRecDepth 20000 in
theorem ggX6_assizes_X6_lays : GoodIn wsX6_assizes wsX6_lays := goodIn_r _ [87, 13, 12, 14, 5, 15, 93, 94, 95, 96, 97, 98, 99, 100, 101, 102, 103, 104, 105, 106, 107, 108, 109, 110, 111, 112, 113, 114, 115, 116, 117, 118, 119, 120, 121, 122, 123, 124, 125, 126, 127, 128, 129, 130] (by decide +kernel) (by decide +kernel)
set_option maxRecDepth 20000 in
theorem gX6_assizes_X6_lays : GoodIn wsX6_assizes (wsV RX6 222 RX6 yX6_lays wsX6_lays) := goodIn_app (goodIn_of _ (by decide +kernel)) ggX6_assizes_X6_lays
set_option maxRecDepth 20000 in
theorem ggX6_assizes_X6_verdictOf : GoodIn wsX6_assizes wsX6_verdictOf := goodIn_r _ [91, 92, 93, 94, 95, 96, 97, 98, 99, 100, 101, 102, 103, 104, 105, 106, 107, 108, 109, 110, 111, 112, 113, 114, 115, 116, 117, 118, 119, 120, 121, 122, 123, 124, 125, 126, 127, 128, 129, 130] (by decide +kernel) (by decide +kernel)
set_option maxRecDepth 20000 in
theorem gX6_assizes_X6_verdictOf : GoodIn wsX6_assizes (wsV RX6 112 RX6 yX6_verdictOf wsX6_verdictOf) := goodIn_app (goodIn_of _ (by decide +kernel)) ggX6_assizes_X6_verdictOf
theorem dX6_assizes_0 : decode cX6_assizes 0 = .ok (.iload_n 1, 1) := by decide +kernel
theorem dX6_assizes_1 : decode cX6_assizes 1 = .ok (.i2l, 1) := by decide +kernel
theorem dX6_assizes_2 : decode cX6_assizes 2 = .ok (.lconst 1, 1) := by decide +kernel
theorem dX6_assizes_3 : decode cX6_assizes 3 = .ok (.ladd, 1) := by decide +kernel
theorem dX6_assizes_4 : decode cX6_assizes 4 = .ok (.lstore_n 2, 1) := by decide +kernel
theorem dX6_assizes_5 : decode cX6_assizes 5 = .ok (.aload_n 0, 1) := by decide +kernel
theorem dX6_assizes_6 : decode cX6_assizes 6 = .ok (.invokevirtual 216, 3) := by decide +kernel
theorem dX6_assizes_9 : decode cX6_assizes 9 = .ok (.iconst 0, 1) := by decide +kernel
theorem dX6_assizes_10 : decode cX6_assizes 10 = .ok (.istore 4, 2) := by decide +kernel
theorem dX6_assizes_12 : decode cX6_assizes 12 = .ok (.iload 4, 2) := by decide +kernel
theorem dX6_assizes_14 : decode cX6_assizes 14 = .ok (.bipush 10, 2) := by decide +kernel
theorem dX6_assizes_16 : decode cX6_assizes 16 = .ok (.if_icmp .ge 83, 3) := by decide +kernel
theorem dX6_assizes_19 : decode cX6_assizes 19 = .ok (.lload_n 2, 1) := by decide +kernel
theorem dX6_assizes_20 : decode cX6_assizes 20 = .ok (.ldc2_w 258, 3) := by decide +kernel
theorem dX6_assizes_23 : decode cX6_assizes 23 = .ok (.lmul, 1) := by decide +kernel
theorem dX6_assizes_24 : decode cX6_assizes 24 = .ok (.ldc2_w 260, 3) := by decide +kernel
theorem dX6_assizes_27 : decode cX6_assizes 27 = .ok (.lrem, 1) := by decide +kernel
theorem dX6_assizes_28 : decode cX6_assizes 28 = .ok (.lstore_n 2, 1) := by decide +kernel
theorem dX6_assizes_29 : decode cX6_assizes 29 = .ok (.lload_n 2, 1) := by decide +kernel
theorem dX6_assizes_30 : decode cX6_assizes 30 = .ok (.ldc2_w 262, 3) := by decide +kernel
theorem dX6_assizes_33 : decode cX6_assizes 33 = .ok (.lrem, 1) := by decide +kernel
theorem dX6_assizes_34 : decode cX6_assizes 34 = .ok (.l2i, 1) := by decide +kernel
theorem dX6_assizes_35 : decode cX6_assizes 35 = .ok (.istore 5, 2) := by decide +kernel
theorem dX6_assizes_37 : decode cX6_assizes 37 = .ok (.iload 5, 2) := by decide +kernel
theorem dX6_assizes_39 : decode cX6_assizes 39 = .ok (.aload_n 0, 1) := by decide +kernel
theorem dX6_assizes_40 : decode cX6_assizes 40 = .ok (.getfield 78, 3) := by decide +kernel
theorem dX6_assizes_43 : decode cX6_assizes 43 = .ok (.if_icmp .ge 7, 3) := by decide +kernel
theorem dX6_assizes_46 : decode cX6_assizes 46 = .ok (.iconst 1, 1) := by decide +kernel
theorem dX6_assizes_47 : decode cX6_assizes 47 = .ok (.goto 4, 3) := by decide +kernel
theorem dX6_assizes_50 : decode cX6_assizes 50 = .ok (.iconst 0, 1) := by decide +kernel
theorem dX6_assizes_51 : decode cX6_assizes 51 = .ok (.istore 6, 2) := by decide +kernel
theorem dX6_assizes_53 : decode cX6_assizes 53 = .ok (.iload 6, 2) := by decide +kernel
theorem dX6_assizes_55 : decode cX6_assizes 55 = .ok (.ifCond .eq 16, 3) := by decide +kernel
theorem dX6_assizes_58 : decode cX6_assizes 58 = .ok (.aload_n 0, 1) := by decide +kernel
theorem dX6_assizes_59 : decode cX6_assizes 59 = .ok (.iload 5, 2) := by decide +kernel
theorem dX6_assizes_61 : decode cX6_assizes 61 = .ok (.iconst 0, 1) := by decide +kernel
theorem dX6_assizes_62 : decode cX6_assizes 62 = .ok (.iconst 5, 1) := by decide +kernel
theorem dX6_assizes_63 : decode cX6_assizes 63 = .ok (.invokestatic 85, 3) := by decide +kernel
theorem dX6_assizes_66 : decode cX6_assizes 66 = .ok (.invokevirtual 231, 3) := by decide +kernel
theorem dX6_assizes_69 : decode cX6_assizes 69 = .ok (.istore 6, 2) := by decide +kernel
theorem dX6_assizes_71 : decode cX6_assizes 71 = .ok (.iload 6, 2) := by decide +kernel
theorem dX6_assizes_73 : decode cX6_assizes 73 = .ok (.ifCond .eq 15, 3) := by decide +kernel
theorem dX6_assizes_76 : decode cX6_assizes 76 = .ok (.aload_n 0, 1) := by decide +kernel
theorem dX6_assizes_77 : decode cX6_assizes 77 = .ok (.iload 5, 2) := by decide +kernel
theorem dX6_assizes_79 : decode cX6_assizes 79 = .ok (.iconst 0, 1) := by decide +kernel
theorem dX6_assizes_80 : decode cX6_assizes 80 = .ok (.iconst 5, 1) := by decide +kernel
theorem dX6_assizes_81 : decode cX6_assizes 81 = .ok (.invokestatic 85, 3) := by decide +kernel
theorem dX6_assizes_84 : decode cX6_assizes 84 = .ok (.invokevirtual 210, 3) := by decide +kernel
theorem dX6_assizes_87 : decode cX6_assizes 87 = .ok (.pop, 1) := by decide +kernel
theorem dX6_assizes_88 : decode cX6_assizes 88 = .ok (.aload_n 0, 1) := by decide +kernel
theorem dX6_assizes_89 : decode cX6_assizes 89 = .ok (.invokevirtual 213, 3) := by decide +kernel
theorem dX6_assizes_92 : decode cX6_assizes 92 = .ok (.pop, 1) := by decide +kernel
theorem dX6_assizes_93 : decode cX6_assizes 93 = .ok (.iinc 4 1, 3) := by decide +kernel
theorem dX6_assizes_96 : decode cX6_assizes 96 = .ok (.goto (-84), 3) := by decide +kernel
theorem dX6_assizes_99 : decode cX6_assizes 99 = .ok (.aload_n 0, 1) := by decide +kernel
theorem dX6_assizes_100 : decode cX6_assizes 100 = .ok (.aload_n 0, 1) := by decide +kernel
theorem dX6_assizes_101 : decode cX6_assizes 101 = .ok (.getfield 109, 3) := by decide +kernel
theorem dX6_assizes_104 : decode cX6_assizes 104 = .ok (.putfield 264, 3) := by decide +kernel
theorem dX6_assizes_107 : decode cX6_assizes 107 = .ok (.aload_n 0, 1) := by decide +kernel
theorem dX6_assizes_108 : decode cX6_assizes 108 = .ok (.invokevirtual 222, 3) := by decide +kernel
theorem dX6_assizes_111 : decode cX6_assizes 111 = .ok (.aload_n 0, 1) := by decide +kernel
theorem dX6_assizes_112 : decode cX6_assizes 112 = .ok (.aload_n 0, 1) := by decide +kernel
theorem dX6_assizes_113 : decode cX6_assizes 113 = .ok (.getfield 264, 3) := by decide +kernel
theorem dX6_assizes_116 : decode cX6_assizes 116 = .ok (.invokevirtual 112, 3) := by decide +kernel
theorem dX6_assizes_119 : decode cX6_assizes 119 = .ok (.ireturn, 1) := by decide +kernel
set_option maxRecDepth 20000 in
theorem ggX6_drawn_X6_in : GoodIn wsX6_drawn wsX6_in := goodIn_r _ [6] (by decide +kernel) (by decide +kernel)
set_option maxRecDepth 20000 in
theorem gX6_drawn_X6_in : GoodIn wsX6_drawn (va_wsS RX6 81 yX6_in wsX6_in) := goodIn_app (goodIn_of _ (by decide +kernel)) ggX6_drawn_X6_in
set_option maxRecDepth 20000 in
theorem ggX6_drawn_X6_assizes : GoodIn wsX6_drawn wsX6_assizes := goodIn_r _ [10, 11, 12, 13, 14, 15, 2, 16, 17, 18, 5, 19, 20, 21, 22, 23, 24, 25, 26, 27, 28, 29, 30, 31, 32, 33, 34, 35, 36, 37, 38, 3, 4, 6, 39, 40, 41, 42, 43, 44, 45, 46, 47, 48, 49, 50, 51, 52, 53, 54, 55, 56, 57, 58, 59, 60, 61, 62, 63, 64, 65, 66, 67, 68, 69, 70, 71, 72, 73, 74, 75, 76, 77, 78, 79, 80, 81, 82, 83, 84, 85, 86, 87, 88, 89, 90, 91, 92, 93, 94, 95, 96, 97, 98, 99, 100, 101, 102, 103, 104, 105, 106, 107, 108, 109, 110, 111, 112, 113, 114, 115, 116, 117, 118, 119, 120, 121, 122, 123, 124, 125, 126, 127, 128, 129, 130, 131, 132, 133, 134, 135] (by decide +kernel) (by decide +kernel)
set_option maxRecDepth 20000 in
theorem gX6_drawn_X6_assizes : GoodIn wsX6_drawn (wsV RX6 268 RX6 yX6_assizes wsX6_assizes) := goodIn_app (goodIn_of _ (by decide +kernel)) ggX6_drawn_X6_assizes
theorem dX6_drawn_0 : decode cX6_drawn 0 = .ok (.iload_n 1, 1) := by decide +kernel
theorem dX6_drawn_1 : decode cX6_drawn 1 = .ok (.iconst 0, 1) := by decide +kernel
theorem dX6_drawn_2 : decode cX6_drawn 2 = .ok (.ldc_w 267, 3) := by decide +kernel
theorem dX6_drawn_5 : decode cX6_drawn 5 = .ok (.invokestatic 81, 3) := by decide +kernel
theorem dX6_drawn_8 : decode cX6_drawn 8 = .ok (.ifCond .eq 12, 3) := by decide +kernel
theorem dX6_drawn_11 : decode cX6_drawn 11 = .ok (.iload_n 2, 1) := by decide +kernel
theorem dX6_drawn_12 : decode cX6_drawn 12 = .ok (.iconst 0, 1) := by decide +kernel
theorem dX6_drawn_13 : decode cX6_drawn 13 = .ok (.iconst 1, 1) := by decide +kernel
theorem dX6_drawn_14 : decode cX6_drawn 14 = .ok (.invokestatic 81, 3) := by decide +kernel
theorem dX6_drawn_17 : decode cX6_drawn 17 = .ok (.ifCond .ne 7, 3) := by decide +kernel
theorem dX6_drawn_20 : decode cX6_drawn 20 = .ok (.sipush (-5000), 3) := by decide +kernel
theorem dX6_drawn_23 : decode cX6_drawn 23 = .ok (.ireturn, 1) := by decide +kernel
theorem dX6_drawn_24 : decode cX6_drawn 24 = .ok (.aload_n 0, 1) := by decide +kernel
theorem dX6_drawn_25 : decode cX6_drawn 25 = .ok (.iload_n 1, 1) := by decide +kernel
theorem dX6_drawn_26 : decode cX6_drawn 26 = .ok (.invokevirtual 268, 3) := by decide +kernel
theorem dX6_drawn_29 : decode cX6_drawn 29 = .ok (.istore_n 3, 1) := by decide +kernel
theorem dX6_drawn_30 : decode cX6_drawn 30 = .ok (.iload_n 2, 1) := by decide +kernel
theorem dX6_drawn_31 : decode cX6_drawn 31 = .ok (.ifCond .ne 7, 3) := by decide +kernel
theorem dX6_drawn_34 : decode cX6_drawn 34 = .ok (.iload_n 3, 1) := by decide +kernel
theorem dX6_drawn_35 : decode cX6_drawn 35 = .ok (.goto 7, 3) := by decide +kernel
theorem dX6_drawn_38 : decode cX6_drawn 38 = .ok (.aload_n 0, 1) := by decide +kernel
theorem dX6_drawn_39 : decode cX6_drawn 39 = .ok (.getfield 264, 3) := by decide +kernel
theorem dX6_drawn_42 : decode cX6_drawn 42 = .ok (.ireturn, 1) := by decide +kernel
set_option maxRecDepth 20000 in
theorem ggX6_odds_X6_in : GoodIn wsX6_odds wsX6_in := goodIn_r _ [6] (by decide +kernel) (by decide +kernel)
set_option maxRecDepth 20000 in
theorem gX6_odds_X6_in : GoodIn wsX6_odds (va_wsS RX6 81 yX6_in wsX6_in) := goodIn_app (goodIn_of _ (by decide +kernel)) ggX6_odds_X6_in
set_option maxRecDepth 20000 in
theorem ggX6_odds_X6_assizes : GoodIn wsX6_odds wsX6_assizes := goodIn_r _ [10, 11, 12, 13, 14, 15, 16, 17, 18, 19, 5, 20, 21, 22, 23, 24, 25, 26, 27, 28, 29, 30, 31, 32, 33, 34, 35, 36, 37, 38, 39, 3, 4, 6, 40, 41, 42, 43, 44, 45, 46, 47, 48, 49, 50, 51, 52, 53, 54, 55, 56, 57, 58, 59, 60, 61, 62, 63, 64, 65, 66, 67, 68, 69, 70, 71, 72, 73, 74, 75, 76, 77, 78, 79, 80, 81, 82, 83, 84, 85, 86, 87, 88, 89, 90, 91, 92, 93, 94, 95, 96, 97, 98, 102, 103, 104, 105, 106, 107, 108, 109, 110, 111, 112, 113, 114, 115, 116, 117, 118, 119, 120, 121, 122, 123, 124, 125, 126, 127, 128, 129, 130, 131, 132, 133, 134, 135, 136, 137, 138, 139] (by decide +kernel) (by decide +kernel)
set_option maxRecDepth 20000 in
theorem gX6_odds_X6_assizes : GoodIn wsX6_odds (wsV RX6 268 RX6 yX6_assizes wsX6_assizes) := goodIn_app (goodIn_of _ (by decide +kernel)) ggX6_odds_X6_assizes
set_option maxRecDepth 20000 in
theorem ggX6_odds_X6_lowest : GoodIn wsX6_odds wsX6_lowest := goodIn_r _ [101] (by decide +kernel) (by decide +kernel)
set_option maxRecDepth 20000 in
theorem gX6_odds_X6_lowest : GoodIn wsX6_odds (va_wsS RX6 246 yX6_lowest wsX6_lowest) := goodIn_app (goodIn_of _ (by decide +kernel)) ggX6_odds_X6_lowest
theorem dX6_odds_0 : decode cX6_odds 0 = .ok (.iload_n 1, 1) := by decide +kernel
theorem dX6_odds_1 : decode cX6_odds 1 = .ok (.iconst 0, 1) := by decide +kernel
theorem dX6_odds_2 : decode cX6_odds 2 = .ok (.ldc_w 267, 3) := by decide +kernel
theorem dX6_odds_5 : decode cX6_odds 5 = .ok (.invokestatic 81, 3) := by decide +kernel
theorem dX6_odds_8 : decode cX6_odds 8 = .ok (.ifCond .eq 36, 3) := by decide +kernel
theorem dX6_odds_11 : decode cX6_odds 11 = .ok (.iload_n 2, 1) := by decide +kernel
theorem dX6_odds_12 : decode cX6_odds 12 = .ok (.iconst 1, 1) := by decide +kernel
theorem dX6_odds_13 : decode cX6_odds 13 = .ok (.bipush 40, 2) := by decide +kernel
theorem dX6_odds_15 : decode cX6_odds 15 = .ok (.invokestatic 81, 3) := by decide +kernel
theorem dX6_odds_18 : decode cX6_odds 18 = .ok (.ifCond .eq 26, 3) := by decide +kernel
theorem dX6_odds_21 : decode cX6_odds 21 = .ok (.iload_n 3, 1) := by decide +kernel
theorem dX6_odds_22 : decode cX6_odds 22 = .ok (.sipush (-999), 3) := by decide +kernel
theorem dX6_odds_25 : decode cX6_odds 25 = .ok (.sipush 999, 3) := by decide +kernel
theorem dX6_odds_28 : decode cX6_odds 28 = .ok (.invokestatic 81, 3) := by decide +kernel
theorem dX6_odds_31 : decode cX6_odds 31 = .ok (.ifCond .eq 13, 3) := by decide +kernel
theorem dX6_odds_34 : decode cX6_odds 34 = .ok (.iload 4, 2) := by decide +kernel
theorem dX6_odds_36 : decode cX6_odds 36 = .ok (.iconst 0, 1) := by decide +kernel
theorem dX6_odds_37 : decode cX6_odds 37 = .ok (.iconst 1, 1) := by decide +kernel
theorem dX6_odds_38 : decode cX6_odds 38 = .ok (.invokestatic 81, 3) := by decide +kernel
theorem dX6_odds_41 : decode cX6_odds 41 = .ok (.ifCond .ne 7, 3) := by decide +kernel
theorem dX6_odds_44 : decode cX6_odds 44 = .ok (.ldc2_w 250, 3) := by decide +kernel
theorem dX6_odds_47 : decode cX6_odds 47 = .ok (.lreturn, 1) := by decide +kernel
theorem dX6_odds_48 : decode cX6_odds 48 = .ok (.lconst 0, 1) := by decide +kernel
theorem dX6_odds_49 : decode cX6_odds 49 = .ok (.lstore 5, 2) := by decide +kernel
theorem dX6_odds_51 : decode cX6_odds 51 = .ok (.iconst 0, 1) := by decide +kernel
theorem dX6_odds_52 : decode cX6_odds 52 = .ok (.istore 7, 2) := by decide +kernel
theorem dX6_odds_54 : decode cX6_odds 54 = .ok (.iload 7, 2) := by decide +kernel
theorem dX6_odds_56 : decode cX6_odds 56 = .ok (.iload_n 2, 1) := by decide +kernel
theorem dX6_odds_57 : decode cX6_odds 57 = .ok (.if_icmp .ge 31, 3) := by decide +kernel
theorem dX6_odds_60 : decode cX6_odds 60 = .ok (.lload 5, 2) := by decide +kernel
theorem dX6_odds_62 : decode cX6_odds 62 = .ok (.aload_n 0, 1) := by decide +kernel
theorem dX6_odds_63 : decode cX6_odds 63 = .ok (.iload_n 1, 1) := by decide +kernel
theorem dX6_odds_64 : decode cX6_odds 64 = .ok (.iload 7, 2) := by decide +kernel
theorem dX6_odds_66 : decode cX6_odds 66 = .ok (.iadd, 1) := by decide +kernel
theorem dX6_odds_67 : decode cX6_odds 67 = .ok (.invokevirtual 268, 3) := by decide +kernel
theorem dX6_odds_70 : decode cX6_odds 70 = .ok (.iload_n 3, 1) := by decide +kernel
theorem dX6_odds_71 : decode cX6_odds 71 = .ok (.if_icmp .lt 7, 3) := by decide +kernel
theorem dX6_odds_74 : decode cX6_odds 74 = .ok (.lconst 1, 1) := by decide +kernel
theorem dX6_odds_75 : decode cX6_odds 75 = .ok (.goto 4, 3) := by decide +kernel
theorem dX6_odds_78 : decode cX6_odds 78 = .ok (.lconst 0, 1) := by decide +kernel
theorem dX6_odds_79 : decode cX6_odds 79 = .ok (.ladd, 1) := by decide +kernel
theorem dX6_odds_80 : decode cX6_odds 80 = .ok (.lstore 5, 2) := by decide +kernel
theorem dX6_odds_82 : decode cX6_odds 82 = .ok (.iinc 7 1, 3) := by decide +kernel
theorem dX6_odds_85 : decode cX6_odds 85 = .ok (.goto (-31), 3) := by decide +kernel
theorem dX6_odds_88 : decode cX6_odds 88 = .ok (.lload 5, 2) := by decide +kernel
theorem dX6_odds_90 : decode cX6_odds 90 = .ok (.iload_n 2, 1) := by decide +kernel
theorem dX6_odds_91 : decode cX6_odds 91 = .ok (.i2l, 1) := by decide +kernel
theorem dX6_odds_92 : decode cX6_odds 92 = .ok (.iload 4, 2) := by decide +kernel
theorem dX6_odds_94 : decode cX6_odds 94 = .ok (.invokestatic 246, 3) := by decide +kernel
theorem dX6_odds_97 : decode cX6_odds 97 = .ok (.lreturn, 1) := by decide +kernel
theorem dX6_image_0 : decode cX6_image 0 = .ok (.aload_n 0, 1) := by decide +kernel
theorem dX6_image_1 : decode cX6_image 1 = .ok (.iconst 1, 1) := by decide +kernel
theorem dX6_image_2 : decode cX6_image 2 = .ok (.putfield 271, 3) := by decide +kernel
theorem dX6_image_5 : decode cX6_image 5 = .ok (.iconst 0, 1) := by decide +kernel
theorem dX6_image_6 : decode cX6_image 6 = .ok (.istore_n 1, 1) := by decide +kernel
theorem dX6_image_7 : decode cX6_image 7 = .ok (.iload_n 1, 1) := by decide +kernel
theorem dX6_image_8 : decode cX6_image 8 = .ok (.bipush 18, 2) := by decide +kernel
theorem dX6_image_10 : decode cX6_image 10 = .ok (.if_icmp .ge 21, 3) := by decide +kernel
theorem dX6_image_13 : decode cX6_image 13 = .ok (.aload_n 0, 1) := by decide +kernel
theorem dX6_image_14 : decode cX6_image 14 = .ok (.getfield 37, 3) := by decide +kernel
theorem dX6_image_17 : decode cX6_image 17 = .ok (.iload_n 1, 1) := by decide +kernel
theorem dX6_image_18 : decode cX6_image 18 = .ok (.aload_n 0, 1) := by decide +kernel
theorem dX6_image_19 : decode cX6_image 19 = .ok (.getfield 16, 3) := by decide +kernel
theorem dX6_image_22 : decode cX6_image 22 = .ok (.iload_n 1, 1) := by decide +kernel
theorem dX6_image_23 : decode cX6_image 23 = .ok (.iaload, 1) := by decide +kernel
theorem dX6_image_24 : decode cX6_image 24 = .ok (.iastore, 1) := by decide +kernel
theorem dX6_image_25 : decode cX6_image 25 = .ok (.iinc 1 1, 3) := by decide +kernel
theorem dX6_image_28 : decode cX6_image 28 = .ok (.goto (-21), 3) := by decide +kernel
theorem dX6_image_31 : decode cX6_image 31 = .ok (.iconst 0, 1) := by decide +kernel
theorem dX6_image_32 : decode cX6_image 32 = .ok (.istore_n 1, 1) := by decide +kernel
theorem dX6_image_33 : decode cX6_image 33 = .ok (.iload_n 1, 1) := by decide +kernel
theorem dX6_image_34 : decode cX6_image 34 = .ok (.bipush 24, 2) := by decide +kernel
theorem dX6_image_36 : decode cX6_image 36 = .ok (.if_icmp .ge 24, 3) := by decide +kernel
theorem dX6_image_39 : decode cX6_image 39 = .ok (.aload_n 0, 1) := by decide +kernel
theorem dX6_image_40 : decode cX6_image 40 = .ok (.getfield 37, 3) := by decide +kernel
theorem dX6_image_43 : decode cX6_image 43 = .ok (.bipush 18, 2) := by decide +kernel
theorem dX6_image_45 : decode cX6_image 45 = .ok (.iload_n 1, 1) := by decide +kernel
theorem dX6_image_46 : decode cX6_image 46 = .ok (.iadd, 1) := by decide +kernel
theorem dX6_image_47 : decode cX6_image 47 = .ok (.aload_n 0, 1) := by decide +kernel
theorem dX6_image_48 : decode cX6_image 48 = .ok (.getfield 19, 3) := by decide +kernel
theorem dX6_image_51 : decode cX6_image 51 = .ok (.iload_n 1, 1) := by decide +kernel
theorem dX6_image_52 : decode cX6_image 52 = .ok (.iaload, 1) := by decide +kernel
theorem dX6_image_53 : decode cX6_image 53 = .ok (.iastore, 1) := by decide +kernel
theorem dX6_image_54 : decode cX6_image 54 = .ok (.iinc 1 1, 3) := by decide +kernel
theorem dX6_image_57 : decode cX6_image 57 = .ok (.goto (-24), 3) := by decide +kernel
theorem dX6_image_60 : decode cX6_image 60 = .ok (.iconst 0, 1) := by decide +kernel
theorem dX6_image_61 : decode cX6_image 61 = .ok (.istore_n 1, 1) := by decide +kernel
theorem dX6_image_62 : decode cX6_image 62 = .ok (.iload_n 1, 1) := by decide +kernel
theorem dX6_image_63 : decode cX6_image 63 = .ok (.bipush 10, 2) := by decide +kernel
theorem dX6_image_65 : decode cX6_image 65 = .ok (.if_icmp .ge 24, 3) := by decide +kernel
theorem dX6_image_68 : decode cX6_image 68 = .ok (.aload_n 0, 1) := by decide +kernel
theorem dX6_image_69 : decode cX6_image 69 = .ok (.getfield 37, 3) := by decide +kernel
theorem dX6_image_72 : decode cX6_image 72 = .ok (.bipush 42, 2) := by decide +kernel
theorem dX6_image_74 : decode cX6_image 74 = .ok (.iload_n 1, 1) := by decide +kernel
theorem dX6_image_75 : decode cX6_image 75 = .ok (.iadd, 1) := by decide +kernel
theorem dX6_image_76 : decode cX6_image 76 = .ok (.aload_n 0, 1) := by decide +kernel
theorem dX6_image_77 : decode cX6_image 77 = .ok (.getfield 22, 3) := by decide +kernel
theorem dX6_image_80 : decode cX6_image 80 = .ok (.iload_n 1, 1) := by decide +kernel
theorem dX6_image_81 : decode cX6_image 81 = .ok (.iaload, 1) := by decide +kernel
theorem dX6_image_82 : decode cX6_image 82 = .ok (.iastore, 1) := by decide +kernel
theorem dX6_image_83 : decode cX6_image 83 = .ok (.iinc 1 1, 3) := by decide +kernel
theorem dX6_image_86 : decode cX6_image 86 = .ok (.goto (-24), 3) := by decide +kernel
theorem dX6_image_89 : decode cX6_image 89 = .ok (.iconst 0, 1) := by decide +kernel
theorem dX6_image_90 : decode cX6_image 90 = .ok (.istore_n 1, 1) := by decide +kernel
theorem dX6_image_91 : decode cX6_image 91 = .ok (.iload_n 1, 1) := by decide +kernel
theorem dX6_image_92 : decode cX6_image 92 = .ok (.bipush 6, 2) := by decide +kernel
theorem dX6_image_94 : decode cX6_image 94 = .ok (.if_icmp .ge 24, 3) := by decide +kernel
theorem dX6_image_97 : decode cX6_image 97 = .ok (.aload_n 0, 1) := by decide +kernel
theorem dX6_image_98 : decode cX6_image 98 = .ok (.getfield 37, 3) := by decide +kernel
theorem dX6_image_101 : decode cX6_image 101 = .ok (.bipush 52, 2) := by decide +kernel
theorem dX6_image_103 : decode cX6_image 103 = .ok (.iload_n 1, 1) := by decide +kernel
theorem dX6_image_104 : decode cX6_image 104 = .ok (.iadd, 1) := by decide +kernel
theorem dX6_image_105 : decode cX6_image 105 = .ok (.aload_n 0, 1) := by decide +kernel
theorem dX6_image_106 : decode cX6_image 106 = .ok (.getfield 25, 3) := by decide +kernel
theorem dX6_image_109 : decode cX6_image 109 = .ok (.iload_n 1, 1) := by decide +kernel
theorem dX6_image_110 : decode cX6_image 110 = .ok (.iaload, 1) := by decide +kernel
theorem dX6_image_111 : decode cX6_image 111 = .ok (.iastore, 1) := by decide +kernel
theorem dX6_image_112 : decode cX6_image 112 = .ok (.iinc 1 1, 3) := by decide +kernel
theorem dX6_image_115 : decode cX6_image 115 = .ok (.goto (-24), 3) := by decide +kernel
theorem dX6_image_118 : decode cX6_image 118 = .ok (.aload_n 0, 1) := by decide +kernel
theorem dX6_image_119 : decode cX6_image 119 = .ok (.getfield 40, 3) := by decide +kernel
theorem dX6_image_122 : decode cX6_image 122 = .ok (.iconst 0, 1) := by decide +kernel
theorem dX6_image_123 : decode cX6_image 123 = .ok (.aload_n 0, 1) := by decide +kernel
theorem dX6_image_124 : decode cX6_image 124 = .ok (.getfield 78, 3) := by decide +kernel
theorem dX6_image_127 : decode cX6_image 127 = .ok (.iastore, 1) := by decide +kernel
theorem dX6_image_128 : decode cX6_image 128 = .ok (.aload_n 0, 1) := by decide +kernel
theorem dX6_image_129 : decode cX6_image 129 = .ok (.getfield 40, 3) := by decide +kernel
theorem dX6_image_132 : decode cX6_image 132 = .ok (.iconst 1, 1) := by decide +kernel
theorem dX6_image_133 : decode cX6_image 133 = .ok (.aload_n 0, 1) := by decide +kernel
theorem dX6_image_134 : decode cX6_image 134 = .ok (.getfield 109, 3) := by decide +kernel
theorem dX6_image_137 : decode cX6_image 137 = .ok (.iastore, 1) := by decide +kernel
theorem dX6_image_138 : decode cX6_image 138 = .ok (.aload_n 0, 1) := by decide +kernel
theorem dX6_image_139 : decode cX6_image 139 = .ok (.getfield 40, 3) := by decide +kernel
theorem dX6_image_142 : decode cX6_image 142 = .ok (.iconst 2, 1) := by decide +kernel
theorem dX6_image_143 : decode cX6_image 143 = .ok (.aload_n 0, 1) := by decide +kernel
theorem dX6_image_144 : decode cX6_image 144 = .ok (.getfield 93, 3) := by decide +kernel
theorem dX6_image_147 : decode cX6_image 147 = .ok (.iastore, 1) := by decide +kernel
theorem dX6_image_148 : decode cX6_image 148 = .ok (.aload_n 0, 1) := by decide +kernel
theorem dX6_image_149 : decode cX6_image 149 = .ok (.getfield 40, 3) := by decide +kernel
theorem dX6_image_152 : decode cX6_image 152 = .ok (.iconst 3, 1) := by decide +kernel
theorem dX6_image_153 : decode cX6_image 153 = .ok (.aload_n 0, 1) := by decide +kernel
theorem dX6_image_154 : decode cX6_image 154 = .ok (.getfield 102, 3) := by decide +kernel
theorem dX6_image_157 : decode cX6_image 157 = .ok (.iastore, 1) := by decide +kernel
theorem dX6_image_158 : decode cX6_image 158 = .ok (.aload_n 0, 1) := by decide +kernel
theorem dX6_image_159 : decode cX6_image 159 = .ok (.getfield 78, 3) := by decide +kernel
theorem dX6_image_162 : decode cX6_image 162 = .ok (.ireturn, 1) := by decide +kernel
theorem dX6_back_0 : decode cX6_back 0 = .ok (.aload_n 0, 1) := by decide +kernel
theorem dX6_back_1 : decode cX6_back 1 = .ok (.getfield 271, 3) := by decide +kernel
theorem dX6_back_4 : decode cX6_back 4 = .ok (.ifCond .ne 6, 3) := by decide +kernel
theorem dX6_back_7 : decode cX6_back 7 = .ok (.bipush (-3), 2) := by decide +kernel
theorem dX6_back_9 : decode cX6_back 9 = .ok (.ireturn, 1) := by decide +kernel
theorem dX6_back_10 : decode cX6_back 10 = .ok (.iconst 0, 1) := by decide +kernel
theorem dX6_back_11 : decode cX6_back 11 = .ok (.istore_n 1, 1) := by decide +kernel
theorem dX6_back_12 : decode cX6_back 12 = .ok (.iload_n 1, 1) := by decide +kernel
theorem dX6_back_13 : decode cX6_back 13 = .ok (.bipush 18, 2) := by decide +kernel
theorem dX6_back_15 : decode cX6_back 15 = .ok (.if_icmp .ge 21, 3) := by decide +kernel
theorem dX6_back_18 : decode cX6_back 18 = .ok (.aload_n 0, 1) := by decide +kernel
theorem dX6_back_19 : decode cX6_back 19 = .ok (.getfield 16, 3) := by decide +kernel
theorem dX6_back_22 : decode cX6_back 22 = .ok (.iload_n 1, 1) := by decide +kernel
theorem dX6_back_23 : decode cX6_back 23 = .ok (.aload_n 0, 1) := by decide +kernel
theorem dX6_back_24 : decode cX6_back 24 = .ok (.getfield 37, 3) := by decide +kernel
theorem dX6_back_27 : decode cX6_back 27 = .ok (.iload_n 1, 1) := by decide +kernel
theorem dX6_back_28 : decode cX6_back 28 = .ok (.iaload, 1) := by decide +kernel
theorem dX6_back_29 : decode cX6_back 29 = .ok (.iastore, 1) := by decide +kernel
theorem dX6_back_30 : decode cX6_back 30 = .ok (.iinc 1 1, 3) := by decide +kernel
theorem dX6_back_33 : decode cX6_back 33 = .ok (.goto (-21), 3) := by decide +kernel
theorem dX6_back_36 : decode cX6_back 36 = .ok (.iconst 0, 1) := by decide +kernel
theorem dX6_back_37 : decode cX6_back 37 = .ok (.istore_n 1, 1) := by decide +kernel
theorem dX6_back_38 : decode cX6_back 38 = .ok (.iload_n 1, 1) := by decide +kernel
theorem dX6_back_39 : decode cX6_back 39 = .ok (.bipush 24, 2) := by decide +kernel
theorem dX6_back_41 : decode cX6_back 41 = .ok (.if_icmp .ge 24, 3) := by decide +kernel
theorem dX6_back_44 : decode cX6_back 44 = .ok (.aload_n 0, 1) := by decide +kernel
theorem dX6_back_45 : decode cX6_back 45 = .ok (.getfield 19, 3) := by decide +kernel
theorem dX6_back_48 : decode cX6_back 48 = .ok (.iload_n 1, 1) := by decide +kernel
theorem dX6_back_49 : decode cX6_back 49 = .ok (.aload_n 0, 1) := by decide +kernel
theorem dX6_back_50 : decode cX6_back 50 = .ok (.getfield 37, 3) := by decide +kernel
theorem dX6_back_53 : decode cX6_back 53 = .ok (.bipush 18, 2) := by decide +kernel
theorem dX6_back_55 : decode cX6_back 55 = .ok (.iload_n 1, 1) := by decide +kernel
theorem dX6_back_56 : decode cX6_back 56 = .ok (.iadd, 1) := by decide +kernel
theorem dX6_back_57 : decode cX6_back 57 = .ok (.iaload, 1) := by decide +kernel
theorem dX6_back_58 : decode cX6_back 58 = .ok (.iastore, 1) := by decide +kernel
theorem dX6_back_59 : decode cX6_back 59 = .ok (.iinc 1 1, 3) := by decide +kernel
theorem dX6_back_62 : decode cX6_back 62 = .ok (.goto (-24), 3) := by decide +kernel
theorem dX6_back_65 : decode cX6_back 65 = .ok (.iconst 0, 1) := by decide +kernel
theorem dX6_back_66 : decode cX6_back 66 = .ok (.istore_n 1, 1) := by decide +kernel
theorem dX6_back_67 : decode cX6_back 67 = .ok (.iload_n 1, 1) := by decide +kernel
theorem dX6_back_68 : decode cX6_back 68 = .ok (.bipush 10, 2) := by decide +kernel
theorem dX6_back_70 : decode cX6_back 70 = .ok (.if_icmp .ge 24, 3) := by decide +kernel
theorem dX6_back_73 : decode cX6_back 73 = .ok (.aload_n 0, 1) := by decide +kernel
theorem dX6_back_74 : decode cX6_back 74 = .ok (.getfield 22, 3) := by decide +kernel
theorem dX6_back_77 : decode cX6_back 77 = .ok (.iload_n 1, 1) := by decide +kernel
theorem dX6_back_78 : decode cX6_back 78 = .ok (.aload_n 0, 1) := by decide +kernel
theorem dX6_back_79 : decode cX6_back 79 = .ok (.getfield 37, 3) := by decide +kernel
theorem dX6_back_82 : decode cX6_back 82 = .ok (.bipush 42, 2) := by decide +kernel
theorem dX6_back_84 : decode cX6_back 84 = .ok (.iload_n 1, 1) := by decide +kernel
theorem dX6_back_85 : decode cX6_back 85 = .ok (.iadd, 1) := by decide +kernel
theorem dX6_back_86 : decode cX6_back 86 = .ok (.iaload, 1) := by decide +kernel
theorem dX6_back_87 : decode cX6_back 87 = .ok (.iastore, 1) := by decide +kernel
theorem dX6_back_88 : decode cX6_back 88 = .ok (.iinc 1 1, 3) := by decide +kernel
theorem dX6_back_91 : decode cX6_back 91 = .ok (.goto (-24), 3) := by decide +kernel
theorem dX6_back_94 : decode cX6_back 94 = .ok (.iconst 0, 1) := by decide +kernel
theorem dX6_back_95 : decode cX6_back 95 = .ok (.istore_n 1, 1) := by decide +kernel
theorem dX6_back_96 : decode cX6_back 96 = .ok (.iload_n 1, 1) := by decide +kernel
theorem dX6_back_97 : decode cX6_back 97 = .ok (.bipush 6, 2) := by decide +kernel
theorem dX6_back_99 : decode cX6_back 99 = .ok (.if_icmp .ge 24, 3) := by decide +kernel
theorem dX6_back_102 : decode cX6_back 102 = .ok (.aload_n 0, 1) := by decide +kernel
theorem dX6_back_103 : decode cX6_back 103 = .ok (.getfield 25, 3) := by decide +kernel
theorem dX6_back_106 : decode cX6_back 106 = .ok (.iload_n 1, 1) := by decide +kernel
theorem dX6_back_107 : decode cX6_back 107 = .ok (.aload_n 0, 1) := by decide +kernel
theorem dX6_back_108 : decode cX6_back 108 = .ok (.getfield 37, 3) := by decide +kernel
theorem dX6_back_111 : decode cX6_back 111 = .ok (.bipush 52, 2) := by decide +kernel
theorem dX6_back_113 : decode cX6_back 113 = .ok (.iload_n 1, 1) := by decide +kernel
theorem dX6_back_114 : decode cX6_back 114 = .ok (.iadd, 1) := by decide +kernel
theorem dX6_back_115 : decode cX6_back 115 = .ok (.iaload, 1) := by decide +kernel
theorem dX6_back_116 : decode cX6_back 116 = .ok (.iastore, 1) := by decide +kernel
theorem dX6_back_117 : decode cX6_back 117 = .ok (.iinc 1 1, 3) := by decide +kernel
theorem dX6_back_120 : decode cX6_back 120 = .ok (.goto (-24), 3) := by decide +kernel
theorem dX6_back_123 : decode cX6_back 123 = .ok (.aload_n 0, 1) := by decide +kernel
theorem dX6_back_124 : decode cX6_back 124 = .ok (.aload_n 0, 1) := by decide +kernel
theorem dX6_back_125 : decode cX6_back 125 = .ok (.getfield 40, 3) := by decide +kernel
theorem dX6_back_128 : decode cX6_back 128 = .ok (.iconst 0, 1) := by decide +kernel
theorem dX6_back_129 : decode cX6_back 129 = .ok (.iaload, 1) := by decide +kernel
theorem dX6_back_130 : decode cX6_back 130 = .ok (.putfield 78, 3) := by decide +kernel
theorem dX6_back_133 : decode cX6_back 133 = .ok (.aload_n 0, 1) := by decide +kernel
theorem dX6_back_134 : decode cX6_back 134 = .ok (.aload_n 0, 1) := by decide +kernel
theorem dX6_back_135 : decode cX6_back 135 = .ok (.getfield 40, 3) := by decide +kernel
theorem dX6_back_138 : decode cX6_back 138 = .ok (.iconst 1, 1) := by decide +kernel
theorem dX6_back_139 : decode cX6_back 139 = .ok (.iaload, 1) := by decide +kernel
theorem dX6_back_140 : decode cX6_back 140 = .ok (.putfield 109, 3) := by decide +kernel
theorem dX6_back_143 : decode cX6_back 143 = .ok (.aload_n 0, 1) := by decide +kernel
theorem dX6_back_144 : decode cX6_back 144 = .ok (.aload_n 0, 1) := by decide +kernel
theorem dX6_back_145 : decode cX6_back 145 = .ok (.getfield 40, 3) := by decide +kernel
theorem dX6_back_148 : decode cX6_back 148 = .ok (.iconst 2, 1) := by decide +kernel
theorem dX6_back_149 : decode cX6_back 149 = .ok (.iaload, 1) := by decide +kernel
theorem dX6_back_150 : decode cX6_back 150 = .ok (.putfield 93, 3) := by decide +kernel
theorem dX6_back_153 : decode cX6_back 153 = .ok (.aload_n 0, 1) := by decide +kernel
theorem dX6_back_154 : decode cX6_back 154 = .ok (.aload_n 0, 1) := by decide +kernel
theorem dX6_back_155 : decode cX6_back 155 = .ok (.getfield 40, 3) := by decide +kernel
theorem dX6_back_158 : decode cX6_back 158 = .ok (.iconst 3, 1) := by decide +kernel
theorem dX6_back_159 : decode cX6_back 159 = .ok (.iaload, 1) := by decide +kernel
theorem dX6_back_160 : decode cX6_back 160 = .ok (.putfield 102, 3) := by decide +kernel
theorem dX6_back_163 : decode cX6_back 163 = .ok (.aload_n 0, 1) := by decide +kernel
theorem dX6_back_164 : decode cX6_back 164 = .ok (.getfield 78, 3) := by decide +kernel
theorem dX6_back_167 : decode cX6_back 167 = .ok (.ireturn, 1) := by decide +kernel
set_option maxRecDepth 20000 in
theorem ggX6_sheet_X6_in : GoodIn wsX6_sheet wsX6_in := goodIn_r _ [7] (by decide +kernel) (by decide +kernel)
set_option maxRecDepth 20000 in
theorem gX6_sheet_X6_in : GoodIn wsX6_sheet (va_wsS RX6 81 yX6_in wsX6_in) := goodIn_app (goodIn_of _ (by decide +kernel)) ggX6_sheet_X6_in
theorem dX6_sheet_0 : decode cX6_sheet 0 = .ok (.iload_n 1, 1) := by decide +kernel
theorem dX6_sheet_1 : decode cX6_sheet 1 = .ok (.iconst 0, 1) := by decide +kernel
theorem dX6_sheet_2 : decode cX6_sheet 2 = .ok (.iconst 3, 1) := by decide +kernel
theorem dX6_sheet_3 : decode cX6_sheet 3 = .ok (.invokestatic 81, 3) := by decide +kernel
theorem dX6_sheet_6 : decode cX6_sheet 6 = .ok (.ifCond .eq 23, 3) := by decide +kernel
theorem dX6_sheet_9 : decode cX6_sheet 9 = .ok (.iload_n 2, 1) := by decide +kernel
theorem dX6_sheet_10 : decode cX6_sheet 10 = .ok (.iconst (-1), 1) := by decide +kernel
theorem dX6_sheet_11 : decode cX6_sheet 11 = .ok (.iconst 2, 1) := by decide +kernel
theorem dX6_sheet_12 : decode cX6_sheet 12 = .ok (.invokestatic 81, 3) := by decide +kernel
theorem dX6_sheet_15 : decode cX6_sheet 15 = .ok (.ifCond .eq 14, 3) := by decide +kernel
theorem dX6_sheet_18 : decode cX6_sheet 18 = .ok (.iload_n 2, 1) := by decide +kernel
theorem dX6_sheet_19 : decode cX6_sheet 19 = .ok (.iconst (-1), 1) := by decide +kernel
theorem dX6_sheet_20 : decode cX6_sheet 20 = .ok (.if_icmp .eq 12, 3) := by decide +kernel
theorem dX6_sheet_23 : decode cX6_sheet 23 = .ok (.iload_n 3, 1) := by decide +kernel
theorem dX6_sheet_24 : decode cX6_sheet 24 = .ok (.bipush 40, 2) := by decide +kernel
theorem dX6_sheet_26 : decode cX6_sheet 26 = .ok (.if_icmp .le 6, 3) := by decide +kernel
theorem dX6_sheet_29 : decode cX6_sheet 29 = .ok (.bipush (-2), 2) := by decide +kernel
theorem dX6_sheet_31 : decode cX6_sheet 31 = .ok (.ireturn, 1) := by decide +kernel
theorem dX6_sheet_32 : decode cX6_sheet 32 = .ok (.iload_n 2, 1) := by decide +kernel
theorem dX6_sheet_33 : decode cX6_sheet 33 = .ok (.iconst (-1), 1) := by decide +kernel
theorem dX6_sheet_34 : decode cX6_sheet 34 = .ok (.if_icmp .eq 10, 3) := by decide +kernel
theorem dX6_sheet_37 : decode cX6_sheet 37 = .ok (.iload_n 3, 1) := by decide +kernel
theorem dX6_sheet_38 : decode cX6_sheet 38 = .ok (.ifCond .ge 6, 3) := by decide +kernel
theorem dX6_sheet_41 : decode cX6_sheet 41 = .ok (.bipush (-14), 2) := by decide +kernel
theorem dX6_sheet_43 : decode cX6_sheet 43 = .ok (.ireturn, 1) := by decide +kernel
theorem dX6_sheet_44 : decode cX6_sheet 44 = .ok (.aload_n 0, 1) := by decide +kernel
theorem dX6_sheet_45 : decode cX6_sheet 45 = .ok (.getfield 43, 3) := by decide +kernel
theorem dX6_sheet_48 : decode cX6_sheet 48 = .ok (.iload_n 1, 1) := by decide +kernel
theorem dX6_sheet_49 : decode cX6_sheet 49 = .ok (.iload_n 2, 1) := by decide +kernel
theorem dX6_sheet_50 : decode cX6_sheet 50 = .ok (.iastore, 1) := by decide +kernel
theorem dX6_sheet_51 : decode cX6_sheet 51 = .ok (.aload_n 0, 1) := by decide +kernel
theorem dX6_sheet_52 : decode cX6_sheet 52 = .ok (.getfield 46, 3) := by decide +kernel
theorem dX6_sheet_55 : decode cX6_sheet 55 = .ok (.iload_n 1, 1) := by decide +kernel
theorem dX6_sheet_56 : decode cX6_sheet 56 = .ok (.iload_n 2, 1) := by decide +kernel
theorem dX6_sheet_57 : decode cX6_sheet 57 = .ok (.iconst (-1), 1) := by decide +kernel
theorem dX6_sheet_58 : decode cX6_sheet 58 = .ok (.if_icmp .ne 7, 3) := by decide +kernel
theorem dX6_sheet_61 : decode cX6_sheet 61 = .ok (.iconst 0, 1) := by decide +kernel
theorem dX6_sheet_62 : decode cX6_sheet 62 = .ok (.goto 4, 3) := by decide +kernel
theorem dX6_sheet_65 : decode cX6_sheet 65 = .ok (.iload_n 3, 1) := by decide +kernel
theorem dX6_sheet_66 : decode cX6_sheet 66 = .ok (.iastore, 1) := by decide +kernel
theorem dX6_sheet_67 : decode cX6_sheet 67 = .ok (.iconst 0, 1) := by decide +kernel
theorem dX6_sheet_68 : decode cX6_sheet 68 = .ok (.istore 4, 2) := by decide +kernel
theorem dX6_sheet_70 : decode cX6_sheet 70 = .ok (.iload 4, 2) := by decide +kernel
theorem dX6_sheet_72 : decode cX6_sheet 72 = .ok (.bipush 40, 2) := by decide +kernel
theorem dX6_sheet_74 : decode cX6_sheet 74 = .ok (.if_icmp .ge 22, 3) := by decide +kernel
theorem dX6_sheet_77 : decode cX6_sheet 77 = .ok (.aload_n 0, 1) := by decide +kernel
theorem dX6_sheet_78 : decode cX6_sheet 78 = .ok (.getfield 49, 3) := by decide +kernel
theorem dX6_sheet_81 : decode cX6_sheet 81 = .ok (.bipush 40, 2) := by decide +kernel
theorem dX6_sheet_83 : decode cX6_sheet 83 = .ok (.iload_n 1, 1) := by decide +kernel
theorem dX6_sheet_84 : decode cX6_sheet 84 = .ok (.imul, 1) := by decide +kernel
theorem dX6_sheet_85 : decode cX6_sheet 85 = .ok (.iload 4, 2) := by decide +kernel
theorem dX6_sheet_87 : decode cX6_sheet 87 = .ok (.iadd, 1) := by decide +kernel
theorem dX6_sheet_88 : decode cX6_sheet 88 = .ok (.iconst 0, 1) := by decide +kernel
theorem dX6_sheet_89 : decode cX6_sheet 89 = .ok (.iastore, 1) := by decide +kernel
theorem dX6_sheet_90 : decode cX6_sheet 90 = .ok (.iinc 4 1, 3) := by decide +kernel
theorem dX6_sheet_93 : decode cX6_sheet 93 = .ok (.goto (-23), 3) := by decide +kernel
theorem dX6_sheet_96 : decode cX6_sheet 96 = .ok (.iconst 1, 1) := by decide +kernel
theorem dX6_sheet_97 : decode cX6_sheet 97 = .ok (.ireturn, 1) := by decide +kernel
set_option maxRecDepth 20000 in
theorem ggX6_cell_X6_in : GoodIn wsX6_cell wsX6_in := goodIn_r _ [7] (by decide +kernel) (by decide +kernel)
set_option maxRecDepth 20000 in
theorem gX6_cell_X6_in : GoodIn wsX6_cell (va_wsS RX6 81 yX6_in wsX6_in) := goodIn_app (goodIn_of _ (by decide +kernel)) ggX6_cell_X6_in
theorem dX6_cell_0 : decode cX6_cell 0 = .ok (.iload_n 1, 1) := by decide +kernel
theorem dX6_cell_1 : decode cX6_cell 1 = .ok (.iconst 0, 1) := by decide +kernel
theorem dX6_cell_2 : decode cX6_cell 2 = .ok (.iconst 3, 1) := by decide +kernel
theorem dX6_cell_3 : decode cX6_cell 3 = .ok (.invokestatic 81, 3) := by decide +kernel
theorem dX6_cell_6 : decode cX6_cell 6 = .ok (.ifCond .ne 6, 3) := by decide +kernel
theorem dX6_cell_9 : decode cX6_cell 9 = .ok (.bipush (-2), 2) := by decide +kernel
theorem dX6_cell_11 : decode cX6_cell 11 = .ok (.ireturn, 1) := by decide +kernel
theorem dX6_cell_12 : decode cX6_cell 12 = .ok (.aload_n 0, 1) := by decide +kernel
theorem dX6_cell_13 : decode cX6_cell 13 = .ok (.getfield 43, 3) := by decide +kernel
theorem dX6_cell_16 : decode cX6_cell 16 = .ok (.iload_n 1, 1) := by decide +kernel
theorem dX6_cell_17 : decode cX6_cell 17 = .ok (.iaload, 1) := by decide +kernel
theorem dX6_cell_18 : decode cX6_cell 18 = .ok (.iconst (-1), 1) := by decide +kernel
theorem dX6_cell_19 : decode cX6_cell 19 = .ok (.if_icmp .ne 6, 3) := by decide +kernel
theorem dX6_cell_22 : decode cX6_cell 22 = .ok (.bipush (-11), 2) := by decide +kernel
theorem dX6_cell_24 : decode cX6_cell 24 = .ok (.ireturn, 1) := by decide +kernel
theorem dX6_cell_25 : decode cX6_cell 25 = .ok (.iload_n 2, 1) := by decide +kernel
theorem dX6_cell_26 : decode cX6_cell 26 = .ok (.iconst 0, 1) := by decide +kernel
theorem dX6_cell_27 : decode cX6_cell 27 = .ok (.aload_n 0, 1) := by decide +kernel
theorem dX6_cell_28 : decode cX6_cell 28 = .ok (.getfield 46, 3) := by decide +kernel
theorem dX6_cell_31 : decode cX6_cell 31 = .ok (.iload_n 1, 1) := by decide +kernel
theorem dX6_cell_32 : decode cX6_cell 32 = .ok (.iaload, 1) := by decide +kernel
theorem dX6_cell_33 : decode cX6_cell 33 = .ok (.iconst 1, 1) := by decide +kernel
theorem dX6_cell_34 : decode cX6_cell 34 = .ok (.isub, 1) := by decide +kernel
theorem dX6_cell_35 : decode cX6_cell 35 = .ok (.invokestatic 81, 3) := by decide +kernel
theorem dX6_cell_38 : decode cX6_cell 38 = .ok (.ifCond .ne 6, 3) := by decide +kernel
theorem dX6_cell_41 : decode cX6_cell 41 = .ok (.bipush (-12), 2) := by decide +kernel
theorem dX6_cell_43 : decode cX6_cell 43 = .ok (.ireturn, 1) := by decide +kernel
theorem dX6_cell_44 : decode cX6_cell 44 = .ok (.aload_n 0, 1) := by decide +kernel
theorem dX6_cell_45 : decode cX6_cell 45 = .ok (.getfield 49, 3) := by decide +kernel
theorem dX6_cell_48 : decode cX6_cell 48 = .ok (.bipush 40, 2) := by decide +kernel
theorem dX6_cell_50 : decode cX6_cell 50 = .ok (.iload_n 1, 1) := by decide +kernel
theorem dX6_cell_51 : decode cX6_cell 51 = .ok (.imul, 1) := by decide +kernel
theorem dX6_cell_52 : decode cX6_cell 52 = .ok (.iload_n 2, 1) := by decide +kernel
theorem dX6_cell_53 : decode cX6_cell 53 = .ok (.iadd, 1) := by decide +kernel
theorem dX6_cell_54 : decode cX6_cell 54 = .ok (.aload_n 0, 1) := by decide +kernel
theorem dX6_cell_55 : decode cX6_cell 55 = .ok (.getfield 43, 3) := by decide +kernel
theorem dX6_cell_58 : decode cX6_cell 58 = .ok (.iload_n 1, 1) := by decide +kernel
theorem dX6_cell_59 : decode cX6_cell 59 = .ok (.iaload, 1) := by decide +kernel
theorem dX6_cell_60 : decode cX6_cell 60 = .ok (.ifCond .ne 8, 3) := by decide +kernel
theorem dX6_cell_63 : decode cX6_cell 63 = .ok (.iload_n 3, 1) := by decide +kernel
theorem dX6_cell_64 : decode cX6_cell 64 = .ok (.i2b, 1) := by decide +kernel
theorem dX6_cell_65 : decode cX6_cell 65 = .ok (.goto 19, 3) := by decide +kernel
theorem dX6_cell_68 : decode cX6_cell 68 = .ok (.aload_n 0, 1) := by decide +kernel
theorem dX6_cell_69 : decode cX6_cell 69 = .ok (.getfield 43, 3) := by decide +kernel
theorem dX6_cell_72 : decode cX6_cell 72 = .ok (.iload_n 1, 1) := by decide +kernel
theorem dX6_cell_73 : decode cX6_cell 73 = .ok (.iaload, 1) := by decide +kernel
theorem dX6_cell_74 : decode cX6_cell 74 = .ok (.iconst 1, 1) := by decide +kernel
theorem dX6_cell_75 : decode cX6_cell 75 = .ok (.if_icmp .ne 8, 3) := by decide +kernel
theorem dX6_cell_78 : decode cX6_cell 78 = .ok (.iload_n 3, 1) := by decide +kernel
theorem dX6_cell_79 : decode cX6_cell 79 = .ok (.i2s, 1) := by decide +kernel
theorem dX6_cell_80 : decode cX6_cell 80 = .ok (.goto 4, 3) := by decide +kernel
theorem dX6_cell_83 : decode cX6_cell 83 = .ok (.iload_n 3, 1) := by decide +kernel
theorem dX6_cell_84 : decode cX6_cell 84 = .ok (.iastore, 1) := by decide +kernel
theorem dX6_cell_85 : decode cX6_cell 85 = .ok (.iconst 1, 1) := by decide +kernel
theorem dX6_cell_86 : decode cX6_cell 86 = .ok (.ireturn, 1) := by decide +kernel
set_option maxRecDepth 20000 in
theorem ggX6_copy_X6_in : GoodIn wsX6_copy wsX6_in := goodIn_r _ [7] (by decide +kernel) (by decide +kernel)
set_option maxRecDepth 20000 in
theorem gX6_copy_X6_in : GoodIn wsX6_copy (va_wsS RX6 81 yX6_in wsX6_in) := goodIn_app (goodIn_of _ (by decide +kernel)) ggX6_copy_X6_in
theorem dX6_copy_0 : decode cX6_copy 0 = .ok (.iload_n 1, 1) := by decide +kernel
theorem dX6_copy_1 : decode cX6_copy 1 = .ok (.iconst 0, 1) := by decide +kernel
theorem dX6_copy_2 : decode cX6_copy 2 = .ok (.iconst 3, 1) := by decide +kernel
theorem dX6_copy_3 : decode cX6_copy 3 = .ok (.invokestatic 81, 3) := by decide +kernel
theorem dX6_copy_6 : decode cX6_copy 6 = .ok (.ifCond .eq 12, 3) := by decide +kernel
theorem dX6_copy_9 : decode cX6_copy 9 = .ok (.iload_n 3, 1) := by decide +kernel
theorem dX6_copy_10 : decode cX6_copy 10 = .ok (.iconst 0, 1) := by decide +kernel
theorem dX6_copy_11 : decode cX6_copy 11 = .ok (.iconst 3, 1) := by decide +kernel
theorem dX6_copy_12 : decode cX6_copy 12 = .ok (.invokestatic 81, 3) := by decide +kernel
theorem dX6_copy_15 : decode cX6_copy 15 = .ok (.ifCond .ne 6, 3) := by decide +kernel
theorem dX6_copy_18 : decode cX6_copy 18 = .ok (.bipush (-2), 2) := by decide +kernel
theorem dX6_copy_20 : decode cX6_copy 20 = .ok (.ireturn, 1) := by decide +kernel
theorem dX6_copy_21 : decode cX6_copy 21 = .ok (.aload_n 0, 1) := by decide +kernel
theorem dX6_copy_22 : decode cX6_copy 22 = .ok (.getfield 43, 3) := by decide +kernel
theorem dX6_copy_25 : decode cX6_copy 25 = .ok (.iload_n 1, 1) := by decide +kernel
theorem dX6_copy_26 : decode cX6_copy 26 = .ok (.iaload, 1) := by decide +kernel
theorem dX6_copy_27 : decode cX6_copy 27 = .ok (.iconst (-1), 1) := by decide +kernel
theorem dX6_copy_28 : decode cX6_copy 28 = .ok (.if_icmp .eq 13, 3) := by decide +kernel
theorem dX6_copy_31 : decode cX6_copy 31 = .ok (.aload_n 0, 1) := by decide +kernel
theorem dX6_copy_32 : decode cX6_copy 32 = .ok (.getfield 43, 3) := by decide +kernel
theorem dX6_copy_35 : decode cX6_copy 35 = .ok (.iload_n 3, 1) := by decide +kernel
theorem dX6_copy_36 : decode cX6_copy 36 = .ok (.iaload, 1) := by decide +kernel
theorem dX6_copy_37 : decode cX6_copy 37 = .ok (.iconst (-1), 1) := by decide +kernel
theorem dX6_copy_38 : decode cX6_copy 38 = .ok (.if_icmp .ne 6, 3) := by decide +kernel
theorem dX6_copy_41 : decode cX6_copy 41 = .ok (.bipush (-11), 2) := by decide +kernel
theorem dX6_copy_43 : decode cX6_copy 43 = .ok (.ireturn, 1) := by decide +kernel
theorem dX6_copy_44 : decode cX6_copy 44 = .ok (.aload_n 0, 1) := by decide +kernel
theorem dX6_copy_45 : decode cX6_copy 45 = .ok (.getfield 43, 3) := by decide +kernel
theorem dX6_copy_48 : decode cX6_copy 48 = .ok (.iload_n 1, 1) := by decide +kernel
theorem dX6_copy_49 : decode cX6_copy 49 = .ok (.iaload, 1) := by decide +kernel
theorem dX6_copy_50 : decode cX6_copy 50 = .ok (.aload_n 0, 1) := by decide +kernel
theorem dX6_copy_51 : decode cX6_copy 51 = .ok (.getfield 43, 3) := by decide +kernel
theorem dX6_copy_54 : decode cX6_copy 54 = .ok (.iload_n 3, 1) := by decide +kernel
theorem dX6_copy_55 : decode cX6_copy 55 = .ok (.iaload, 1) := by decide +kernel
theorem dX6_copy_56 : decode cX6_copy 56 = .ok (.if_icmp .eq 6, 3) := by decide +kernel
theorem dX6_copy_59 : decode cX6_copy 59 = .ok (.bipush (-13), 2) := by decide +kernel
theorem dX6_copy_61 : decode cX6_copy 61 = .ok (.ireturn, 1) := by decide +kernel
theorem dX6_copy_62 : decode cX6_copy 62 = .ok (.iload 5, 2) := by decide +kernel
theorem dX6_copy_64 : decode cX6_copy 64 = .ok (.ifCond .lt 60, 3) := by decide +kernel
theorem dX6_copy_67 : decode cX6_copy 67 = .ok (.iload_n 2, 1) := by decide +kernel
theorem dX6_copy_68 : decode cX6_copy 68 = .ok (.ifCond .lt 56, 3) := by decide +kernel
theorem dX6_copy_71 : decode cX6_copy 71 = .ok (.iload 4, 2) := by decide +kernel
theorem dX6_copy_73 : decode cX6_copy 73 = .ok (.ifCond .lt 51, 3) := by decide +kernel
theorem dX6_copy_76 : decode cX6_copy 76 = .ok (.iload_n 2, 1) := by decide +kernel
theorem dX6_copy_77 : decode cX6_copy 77 = .ok (.aload_n 0, 1) := by decide +kernel
theorem dX6_copy_78 : decode cX6_copy 78 = .ok (.getfield 46, 3) := by decide +kernel
theorem dX6_copy_81 : decode cX6_copy 81 = .ok (.iload_n 1, 1) := by decide +kernel
theorem dX6_copy_82 : decode cX6_copy 82 = .ok (.iaload, 1) := by decide +kernel
theorem dX6_copy_83 : decode cX6_copy 83 = .ok (.if_icmp .gt 41, 3) := by decide +kernel
theorem dX6_copy_86 : decode cX6_copy 86 = .ok (.iload 4, 2) := by decide +kernel
theorem dX6_copy_88 : decode cX6_copy 88 = .ok (.aload_n 0, 1) := by decide +kernel
theorem dX6_copy_89 : decode cX6_copy 89 = .ok (.getfield 46, 3) := by decide +kernel
theorem dX6_copy_92 : decode cX6_copy 92 = .ok (.iload_n 3, 1) := by decide +kernel
theorem dX6_copy_93 : decode cX6_copy 93 = .ok (.iaload, 1) := by decide +kernel
theorem dX6_copy_94 : decode cX6_copy 94 = .ok (.if_icmp .gt 30, 3) := by decide +kernel
theorem dX6_copy_97 : decode cX6_copy 97 = .ok (.iload 5, 2) := by decide +kernel
theorem dX6_copy_99 : decode cX6_copy 99 = .ok (.aload_n 0, 1) := by decide +kernel
theorem dX6_copy_100 : decode cX6_copy 100 = .ok (.getfield 46, 3) := by decide +kernel
theorem dX6_copy_103 : decode cX6_copy 103 = .ok (.iload_n 1, 1) := by decide +kernel
theorem dX6_copy_104 : decode cX6_copy 104 = .ok (.iaload, 1) := by decide +kernel
theorem dX6_copy_105 : decode cX6_copy 105 = .ok (.iload_n 2, 1) := by decide +kernel
theorem dX6_copy_106 : decode cX6_copy 106 = .ok (.isub, 1) := by decide +kernel
theorem dX6_copy_107 : decode cX6_copy 107 = .ok (.if_icmp .gt 17, 3) := by decide +kernel
theorem dX6_copy_110 : decode cX6_copy 110 = .ok (.iload 5, 2) := by decide +kernel
theorem dX6_copy_112 : decode cX6_copy 112 = .ok (.aload_n 0, 1) := by decide +kernel
theorem dX6_copy_113 : decode cX6_copy 113 = .ok (.getfield 46, 3) := by decide +kernel
theorem dX6_copy_116 : decode cX6_copy 116 = .ok (.iload_n 3, 1) := by decide +kernel
theorem dX6_copy_117 : decode cX6_copy 117 = .ok (.iaload, 1) := by decide +kernel
theorem dX6_copy_118 : decode cX6_copy 118 = .ok (.iload 4, 2) := by decide +kernel
theorem dX6_copy_120 : decode cX6_copy 120 = .ok (.isub, 1) := by decide +kernel
theorem dX6_copy_121 : decode cX6_copy 121 = .ok (.if_icmp .le 6, 3) := by decide +kernel
theorem dX6_copy_124 : decode cX6_copy 124 = .ok (.bipush (-12), 2) := by decide +kernel
theorem dX6_copy_126 : decode cX6_copy 126 = .ok (.ireturn, 1) := by decide +kernel
theorem dX6_copy_127 : decode cX6_copy 127 = .ok (.bipush 40, 2) := by decide +kernel
theorem dX6_copy_129 : decode cX6_copy 129 = .ok (.iload_n 1, 1) := by decide +kernel
theorem dX6_copy_130 : decode cX6_copy 130 = .ok (.imul, 1) := by decide +kernel
theorem dX6_copy_131 : decode cX6_copy 131 = .ok (.iload_n 2, 1) := by decide +kernel
theorem dX6_copy_132 : decode cX6_copy 132 = .ok (.iadd, 1) := by decide +kernel
theorem dX6_copy_133 : decode cX6_copy 133 = .ok (.istore 6, 2) := by decide +kernel
theorem dX6_copy_135 : decode cX6_copy 135 = .ok (.bipush 40, 2) := by decide +kernel
theorem dX6_copy_137 : decode cX6_copy 137 = .ok (.iload_n 3, 1) := by decide +kernel
theorem dX6_copy_138 : decode cX6_copy 138 = .ok (.imul, 1) := by decide +kernel
theorem dX6_copy_139 : decode cX6_copy 139 = .ok (.iload 4, 2) := by decide +kernel
theorem dX6_copy_141 : decode cX6_copy 141 = .ok (.iadd, 1) := by decide +kernel
theorem dX6_copy_142 : decode cX6_copy 142 = .ok (.istore 7, 2) := by decide +kernel
theorem dX6_copy_144 : decode cX6_copy 144 = .ok (.iconst 0, 1) := by decide +kernel
theorem dX6_copy_145 : decode cX6_copy 145 = .ok (.istore 8, 2) := by decide +kernel
theorem dX6_copy_147 : decode cX6_copy 147 = .ok (.iload 8, 2) := by decide +kernel
theorem dX6_copy_149 : decode cX6_copy 149 = .ok (.iload 5, 2) := by decide +kernel
theorem dX6_copy_151 : decode cX6_copy 151 = .ok (.if_icmp .ge 50, 3) := by decide +kernel
theorem dX6_copy_154 : decode cX6_copy 154 = .ok (.iload 6, 2) := by decide +kernel
theorem dX6_copy_156 : decode cX6_copy 156 = .ok (.iload 7, 2) := by decide +kernel
theorem dX6_copy_158 : decode cX6_copy 158 = .ok (.if_icmp .ge 13, 3) := by decide +kernel
theorem dX6_copy_161 : decode cX6_copy 161 = .ok (.iload 5, 2) := by decide +kernel
theorem dX6_copy_163 : decode cX6_copy 163 = .ok (.iconst 1, 1) := by decide +kernel
theorem dX6_copy_164 : decode cX6_copy 164 = .ok (.isub, 1) := by decide +kernel
theorem dX6_copy_165 : decode cX6_copy 165 = .ok (.iload 8, 2) := by decide +kernel
theorem dX6_copy_167 : decode cX6_copy 167 = .ok (.isub, 1) := by decide +kernel
theorem dX6_copy_168 : decode cX6_copy 168 = .ok (.goto 5, 3) := by decide +kernel
theorem dX6_copy_171 : decode cX6_copy 171 = .ok (.iload 8, 2) := by decide +kernel
theorem dX6_copy_173 : decode cX6_copy 173 = .ok (.istore 9, 2) := by decide +kernel
theorem dX6_copy_175 : decode cX6_copy 175 = .ok (.aload_n 0, 1) := by decide +kernel
theorem dX6_copy_176 : decode cX6_copy 176 = .ok (.getfield 49, 3) := by decide +kernel
theorem dX6_copy_179 : decode cX6_copy 179 = .ok (.iload 7, 2) := by decide +kernel
theorem dX6_copy_181 : decode cX6_copy 181 = .ok (.iload 9, 2) := by decide +kernel
theorem dX6_copy_183 : decode cX6_copy 183 = .ok (.iadd, 1) := by decide +kernel
theorem dX6_copy_184 : decode cX6_copy 184 = .ok (.aload_n 0, 1) := by decide +kernel
theorem dX6_copy_185 : decode cX6_copy 185 = .ok (.getfield 49, 3) := by decide +kernel
theorem dX6_copy_188 : decode cX6_copy 188 = .ok (.iload 6, 2) := by decide +kernel
theorem dX6_copy_190 : decode cX6_copy 190 = .ok (.iload 9, 2) := by decide +kernel
theorem dX6_copy_192 : decode cX6_copy 192 = .ok (.iadd, 1) := by decide +kernel
theorem dX6_copy_193 : decode cX6_copy 193 = .ok (.iaload, 1) := by decide +kernel
theorem dX6_copy_194 : decode cX6_copy 194 = .ok (.iastore, 1) := by decide +kernel
theorem dX6_copy_195 : decode cX6_copy 195 = .ok (.iinc 8 1, 3) := by decide +kernel
theorem dX6_copy_198 : decode cX6_copy 198 = .ok (.goto (-51), 3) := by decide +kernel
theorem dX6_copy_201 : decode cX6_copy 201 = .ok (.iload 5, 2) := by decide +kernel
theorem dX6_copy_203 : decode cX6_copy 203 = .ok (.ireturn, 1) := by decide +kernel
set_option maxRecDepth 20000 in
theorem ggX6_witnessesBy_X6_in : GoodIn wsX6_witnessesBy wsX6_in := goodIn_r _ [7] (by decide +kernel) (by decide +kernel)
set_option maxRecDepth 20000 in
theorem gX6_witnessesBy_X6_in : GoodIn wsX6_witnessesBy (va_wsS RX6 81 yX6_in wsX6_in) := goodIn_app (goodIn_of _ (by decide +kernel)) ggX6_witnessesBy_X6_in
set_option maxRecDepth 20000 in
theorem ggX6_witnessesBy_X6_witness : GoodIn wsX6_witnessesBy wsX6_witness := goodIn_r _ [11, 12, 13, 14, 15, 4, 5, 6, 7, 16, 17, 18, 19, 20, 21, 22, 23, 24, 25, 26, 27, 28, 29, 30, 31, 32, 33, 34, 35, 36, 37, 38, 39, 40, 41, 42, 43, 44, 45, 46, 47, 48, 49, 50, 51, 52, 53] (by decide +kernel) (by decide +kernel)
set_option maxRecDepth 20000 in
theorem gX6_witnessesBy_X6_witness : GoodIn wsX6_witnessesBy (wsV RX6 275 RX6 yX6_witness wsX6_witness) := goodIn_app (goodIn_of _ (by decide +kernel)) ggX6_witnessesBy_X6_witness
theorem dX6_witnessesBy_0 : decode cX6_witnessesBy 0 = .ok (.iload_n 1, 1) := by decide +kernel
theorem dX6_witnessesBy_1 : decode cX6_witnessesBy 1 = .ok (.iconst 0, 1) := by decide +kernel
theorem dX6_witnessesBy_2 : decode cX6_witnessesBy 2 = .ok (.iconst 3, 1) := by decide +kernel
theorem dX6_witnessesBy_3 : decode cX6_witnessesBy 3 = .ok (.invokestatic 81, 3) := by decide +kernel
theorem dX6_witnessesBy_6 : decode cX6_witnessesBy 6 = .ok (.ifCond .eq 23, 3) := by decide +kernel
theorem dX6_witnessesBy_9 : decode cX6_witnessesBy 9 = .ok (.iload_n 2, 1) := by decide +kernel
theorem dX6_witnessesBy_10 : decode cX6_witnessesBy 10 = .ok (.iconst 0, 1) := by decide +kernel
theorem dX6_witnessesBy_11 : decode cX6_witnessesBy 11 = .ok (.iconst 2, 1) := by decide +kernel
theorem dX6_witnessesBy_12 : decode cX6_witnessesBy 12 = .ok (.invokestatic 81, 3) := by decide +kernel
theorem dX6_witnessesBy_15 : decode cX6_witnessesBy 15 = .ok (.ifCond .eq 14, 3) := by decide +kernel
theorem dX6_witnessesBy_18 : decode cX6_witnessesBy 18 = .ok (.iload 4, 2) := by decide +kernel
theorem dX6_witnessesBy_20 : decode cX6_witnessesBy 20 = .ok (.iconst 0, 1) := by decide +kernel
theorem dX6_witnessesBy_21 : decode cX6_witnessesBy 21 = .ok (.bipush 6, 2) := by decide +kernel
theorem dX6_witnessesBy_23 : decode cX6_witnessesBy 23 = .ok (.invokestatic 81, 3) := by decide +kernel
theorem dX6_witnessesBy_26 : decode cX6_witnessesBy 26 = .ok (.ifCond .ne 6, 3) := by decide +kernel
theorem dX6_witnessesBy_29 : decode cX6_witnessesBy 29 = .ok (.bipush (-2), 2) := by decide +kernel
theorem dX6_witnessesBy_31 : decode cX6_witnessesBy 31 = .ok (.ireturn, 1) := by decide +kernel
theorem dX6_witnessesBy_32 : decode cX6_witnessesBy 32 = .ok (.aload_n 0, 1) := by decide +kernel
theorem dX6_witnessesBy_33 : decode cX6_witnessesBy 33 = .ok (.getfield 43, 3) := by decide +kernel
theorem dX6_witnessesBy_36 : decode cX6_witnessesBy 36 = .ok (.iload_n 1, 1) := by decide +kernel
theorem dX6_witnessesBy_37 : decode cX6_witnessesBy 37 = .ok (.iaload, 1) := by decide +kernel
theorem dX6_witnessesBy_38 : decode cX6_witnessesBy 38 = .ok (.iconst (-1), 1) := by decide +kernel
theorem dX6_witnessesBy_39 : decode cX6_witnessesBy 39 = .ok (.if_icmp .ne 6, 3) := by decide +kernel
theorem dX6_witnessesBy_42 : decode cX6_witnessesBy 42 = .ok (.bipush (-11), 2) := by decide +kernel
theorem dX6_witnessesBy_44 : decode cX6_witnessesBy 44 = .ok (.ireturn, 1) := by decide +kernel
theorem dX6_witnessesBy_45 : decode cX6_witnessesBy 45 = .ok (.aload_n 0, 1) := by decide +kernel
theorem dX6_witnessesBy_46 : decode cX6_witnessesBy 46 = .ok (.getfield 43, 3) := by decide +kernel
theorem dX6_witnessesBy_49 : decode cX6_witnessesBy 49 = .ok (.iload_n 1, 1) := by decide +kernel
theorem dX6_witnessesBy_50 : decode cX6_witnessesBy 50 = .ok (.iaload, 1) := by decide +kernel
theorem dX6_witnessesBy_51 : decode cX6_witnessesBy 51 = .ok (.iload_n 2, 1) := by decide +kernel
theorem dX6_witnessesBy_52 : decode cX6_witnessesBy 52 = .ok (.if_icmp .eq 6, 3) := by decide +kernel
theorem dX6_witnessesBy_55 : decode cX6_witnessesBy 55 = .ok (.bipush (-13), 2) := by decide +kernel
theorem dX6_witnessesBy_57 : decode cX6_witnessesBy 57 = .ok (.ireturn, 1) := by decide +kernel
theorem dX6_witnessesBy_58 : decode cX6_witnessesBy 58 = .ok (.iconst 0, 1) := by decide +kernel
theorem dX6_witnessesBy_59 : decode cX6_witnessesBy 59 = .ok (.istore 5, 2) := by decide +kernel
theorem dX6_witnessesBy_61 : decode cX6_witnessesBy 61 = .ok (.iconst 0, 1) := by decide +kernel
theorem dX6_witnessesBy_62 : decode cX6_witnessesBy 62 = .ok (.istore 6, 2) := by decide +kernel
theorem dX6_witnessesBy_64 : decode cX6_witnessesBy 64 = .ok (.iload 6, 2) := by decide +kernel
theorem dX6_witnessesBy_66 : decode cX6_witnessesBy 66 = .ok (.iload 4, 2) := by decide +kernel
theorem dX6_witnessesBy_68 : decode cX6_witnessesBy 68 = .ok (.if_icmp .ge 94, 3) := by decide +kernel
theorem dX6_witnessesBy_71 : decode cX6_witnessesBy 71 = .ok (.iload_n 3, 1) := by decide +kernel
theorem dX6_witnessesBy_72 : decode cX6_witnessesBy 72 = .ok (.iconst 3, 1) := by decide +kernel
theorem dX6_witnessesBy_73 : decode cX6_witnessesBy 73 = .ok (.iload 6, 2) := by decide +kernel
theorem dX6_witnessesBy_75 : decode cX6_witnessesBy 75 = .ok (.imul, 1) := by decide +kernel
theorem dX6_witnessesBy_76 : decode cX6_witnessesBy 76 = .ok (.iadd, 1) := by decide +kernel
theorem dX6_witnessesBy_77 : decode cX6_witnessesBy 77 = .ok (.istore 7, 2) := by decide +kernel
theorem dX6_witnessesBy_79 : decode cX6_witnessesBy 79 = .ok (.iload_n 3, 1) := by decide +kernel
theorem dX6_witnessesBy_80 : decode cX6_witnessesBy 80 = .ok (.ifCond .lt 22, 3) := by decide +kernel
theorem dX6_witnessesBy_83 : decode cX6_witnessesBy 83 = .ok (.iload 7, 2) := by decide +kernel
theorem dX6_witnessesBy_85 : decode cX6_witnessesBy 85 = .ok (.iload_n 3, 1) := by decide +kernel
theorem dX6_witnessesBy_86 : decode cX6_witnessesBy 86 = .ok (.if_icmp .lt 16, 3) := by decide +kernel
theorem dX6_witnessesBy_89 : decode cX6_witnessesBy 89 = .ok (.iload 7, 2) := by decide +kernel
theorem dX6_witnessesBy_91 : decode cX6_witnessesBy 91 = .ok (.aload_n 0, 1) := by decide +kernel
theorem dX6_witnessesBy_92 : decode cX6_witnessesBy 92 = .ok (.getfield 46, 3) := by decide +kernel
theorem dX6_witnessesBy_95 : decode cX6_witnessesBy 95 = .ok (.iload_n 1, 1) := by decide +kernel
theorem dX6_witnessesBy_96 : decode cX6_witnessesBy 96 = .ok (.iaload, 1) := by decide +kernel
theorem dX6_witnessesBy_97 : decode cX6_witnessesBy 97 = .ok (.iconst 3, 1) := by decide +kernel
theorem dX6_witnessesBy_98 : decode cX6_witnessesBy 98 = .ok (.isub, 1) := by decide +kernel
theorem dX6_witnessesBy_99 : decode cX6_witnessesBy 99 = .ok (.if_icmp .le 6, 3) := by decide +kernel
theorem dX6_witnessesBy_102 : decode cX6_witnessesBy 102 = .ok (.bipush (-12), 2) := by decide +kernel
theorem dX6_witnessesBy_104 : decode cX6_witnessesBy 104 = .ok (.ireturn, 1) := by decide +kernel
theorem dX6_witnessesBy_105 : decode cX6_witnessesBy 105 = .ok (.bipush 40, 2) := by decide +kernel
theorem dX6_witnessesBy_107 : decode cX6_witnessesBy 107 = .ok (.iload_n 1, 1) := by decide +kernel
theorem dX6_witnessesBy_108 : decode cX6_witnessesBy 108 = .ok (.imul, 1) := by decide +kernel
theorem dX6_witnessesBy_109 : decode cX6_witnessesBy 109 = .ok (.iload 7, 2) := by decide +kernel
theorem dX6_witnessesBy_111 : decode cX6_witnessesBy 111 = .ok (.iadd, 1) := by decide +kernel
theorem dX6_witnessesBy_112 : decode cX6_witnessesBy 112 = .ok (.istore 8, 2) := by decide +kernel
theorem dX6_witnessesBy_114 : decode cX6_witnessesBy 114 = .ok (.iload 5, 2) := by decide +kernel
theorem dX6_witnessesBy_116 : decode cX6_witnessesBy 116 = .ok (.aload_n 0, 1) := by decide +kernel
theorem dX6_witnessesBy_117 : decode cX6_witnessesBy 117 = .ok (.aload_n 0, 1) := by decide +kernel
theorem dX6_witnessesBy_118 : decode cX6_witnessesBy 118 = .ok (.getfield 49, 3) := by decide +kernel
theorem dX6_witnessesBy_121 : decode cX6_witnessesBy 121 = .ok (.iload 8, 2) := by decide +kernel
theorem dX6_witnessesBy_123 : decode cX6_witnessesBy 123 = .ok (.iaload, 1) := by decide +kernel
theorem dX6_witnessesBy_124 : decode cX6_witnessesBy 124 = .ok (.aload_n 0, 1) := by decide +kernel
theorem dX6_witnessesBy_125 : decode cX6_witnessesBy 125 = .ok (.getfield 49, 3) := by decide +kernel
theorem dX6_witnessesBy_128 : decode cX6_witnessesBy 128 = .ok (.iload 8, 2) := by decide +kernel
theorem dX6_witnessesBy_130 : decode cX6_witnessesBy 130 = .ok (.iconst 1, 1) := by decide +kernel
theorem dX6_witnessesBy_131 : decode cX6_witnessesBy 131 = .ok (.iadd, 1) := by decide +kernel
theorem dX6_witnessesBy_132 : decode cX6_witnessesBy 132 = .ok (.iaload, 1) := by decide +kernel
theorem dX6_witnessesBy_133 : decode cX6_witnessesBy 133 = .ok (.aload_n 0, 1) := by decide +kernel
theorem dX6_witnessesBy_134 : decode cX6_witnessesBy 134 = .ok (.getfield 49, 3) := by decide +kernel
theorem dX6_witnessesBy_137 : decode cX6_witnessesBy 137 = .ok (.iload 8, 2) := by decide +kernel
theorem dX6_witnessesBy_139 : decode cX6_witnessesBy 139 = .ok (.iconst 2, 1) := by decide +kernel
theorem dX6_witnessesBy_140 : decode cX6_witnessesBy 140 = .ok (.iadd, 1) := by decide +kernel
theorem dX6_witnessesBy_141 : decode cX6_witnessesBy 141 = .ok (.iaload, 1) := by decide +kernel
theorem dX6_witnessesBy_142 : decode cX6_witnessesBy 142 = .ok (.invokevirtual 275, 3) := by decide +kernel
theorem dX6_witnessesBy_145 : decode cX6_witnessesBy 145 = .ok (.ifCond .lt 7, 3) := by decide +kernel
theorem dX6_witnessesBy_148 : decode cX6_witnessesBy 148 = .ok (.iconst 1, 1) := by decide +kernel
theorem dX6_witnessesBy_149 : decode cX6_witnessesBy 149 = .ok (.goto 4, 3) := by decide +kernel
theorem dX6_witnessesBy_152 : decode cX6_witnessesBy 152 = .ok (.iconst 0, 1) := by decide +kernel
theorem dX6_witnessesBy_153 : decode cX6_witnessesBy 153 = .ok (.iadd, 1) := by decide +kernel
theorem dX6_witnessesBy_154 : decode cX6_witnessesBy 154 = .ok (.istore 5, 2) := by decide +kernel
theorem dX6_witnessesBy_156 : decode cX6_witnessesBy 156 = .ok (.iinc 6 1, 3) := by decide +kernel
theorem dX6_witnessesBy_159 : decode cX6_witnessesBy 159 = .ok (.goto (-95), 3) := by decide +kernel
theorem dX6_witnessesBy_162 : decode cX6_witnessesBy 162 = .ok (.iload 5, 2) := by decide +kernel
theorem dX6_witnessesBy_164 : decode cX6_witnessesBy 164 = .ok (.ireturn, 1) := by decide +kernel
theorem dX6_isUnder_0 : decode cX6_isUnder 0 = .ok (.iload_n 1, 1) := by decide +kernel
theorem dX6_isUnder_1 : decode cX6_isUnder 1 = .ok (.ifCond .eq 28, 3) := by decide +kernel
theorem dX6_isUnder_4 : decode cX6_isUnder 4 = .ok (.iload_n 0, 1) := by decide +kernel
theorem dX6_isUnder_5 : decode cX6_isUnder 5 = .ok (.iload_n 1, 1) := by decide +kernel
theorem dX6_isUnder_6 : decode cX6_isUnder 6 = .ok (.if_icmp .eq 23, 3) := by decide +kernel
theorem dX6_isUnder_9 : decode cX6_isUnder 9 = .ok (.iload_n 1, 1) := by decide +kernel
theorem dX6_isUnder_10 : decode cX6_isUnder 10 = .ok (.iconst 1, 1) := by decide +kernel
theorem dX6_isUnder_11 : decode cX6_isUnder 11 = .ok (.if_icmp .ne 8, 3) := by decide +kernel
theorem dX6_isUnder_14 : decode cX6_isUnder 14 = .ok (.iload_n 0, 1) := by decide +kernel
theorem dX6_isUnder_15 : decode cX6_isUnder 15 = .ok (.iconst 3, 1) := by decide +kernel
theorem dX6_isUnder_16 : decode cX6_isUnder 16 = .ok (.if_icmp .eq 13, 3) := by decide +kernel
theorem dX6_isUnder_19 : decode cX6_isUnder 19 = .ok (.iload_n 1, 1) := by decide +kernel
theorem dX6_isUnder_20 : decode cX6_isUnder 20 = .ok (.iconst 2, 1) := by decide +kernel
theorem dX6_isUnder_21 : decode cX6_isUnder 21 = .ok (.if_icmp .ne 12, 3) := by decide +kernel
theorem dX6_isUnder_24 : decode cX6_isUnder 24 = .ok (.iload_n 0, 1) := by decide +kernel
theorem dX6_isUnder_25 : decode cX6_isUnder 25 = .ok (.iconst 4, 1) := by decide +kernel
theorem dX6_isUnder_26 : decode cX6_isUnder 26 = .ok (.if_icmp .ne 7, 3) := by decide +kernel
theorem dX6_isUnder_29 : decode cX6_isUnder 29 = .ok (.iconst 1, 1) := by decide +kernel
theorem dX6_isUnder_30 : decode cX6_isUnder 30 = .ok (.goto 4, 3) := by decide +kernel
theorem dX6_isUnder_33 : decode cX6_isUnder 33 = .ok (.iconst 0, 1) := by decide +kernel
theorem dX6_isUnder_34 : decode cX6_isUnder 34 = .ok (.ireturn, 1) := by decide +kernel
set_option maxRecDepth 20000 in
theorem ggX6_taken_X6_in : GoodIn wsX6_taken wsX6_in := goodIn_r _ [7] (by decide +kernel) (by decide +kernel)
set_option maxRecDepth 20000 in
theorem gX6_taken_X6_in : GoodIn wsX6_taken (va_wsS RX6 81 yX6_in wsX6_in) := goodIn_app (goodIn_of _ (by decide +kernel)) ggX6_taken_X6_in
set_option maxRecDepth 20000 in
theorem ggX6_taken_X6_isLinen : GoodIn wsX6_taken wsX6_isLinen := goodIn_r _ [11, 1, 4, 5, 6, 7, 12, 13, 14, 18, 19, 20, 21, 22, 23, 24, 25, 26, 27, 28, 29, 30, 31, 32, 33, 34, 35, 36, 37, 38, 39, 40, 41, 42, 43, 44, 45, 46, 47, 48, 49, 50, 51, 52, 53, 54, 55] (by decide +kernel) (by decide +kernel)
set_option maxRecDepth 20000 in
theorem gX6_taken_X6_isLinen : GoodIn wsX6_taken (wsV RX6 89 RX6 yX6_isLinen wsX6_isLinen) := goodIn_app (goodIn_of _ (by decide +kernel)) ggX6_taken_X6_isLinen
set_option maxRecDepth 20000 in
theorem ggX6_taken_X6_isUnder : GoodIn wsX6_taken wsX6_isUnder := goodIn_r _ [17] (by decide +kernel) (by decide +kernel)
set_option maxRecDepth 20000 in
theorem gX6_taken_X6_isUnder : GoodIn wsX6_taken (va_wsS RX6 278 yX6_isUnder wsX6_isUnder) := goodIn_app (goodIn_of _ (by decide +kernel)) ggX6_taken_X6_isUnder
theorem dX6_taken_0 : decode cX6_taken 0 = .ok (.iload_n 2, 1) := by decide +kernel
theorem dX6_taken_1 : decode cX6_taken 1 = .ok (.iconst 0, 1) := by decide +kernel
theorem dX6_taken_2 : decode cX6_taken 2 = .ok (.bipush 6, 2) := by decide +kernel
theorem dX6_taken_4 : decode cX6_taken 4 = .ok (.invokestatic 81, 3) := by decide +kernel
theorem dX6_taken_7 : decode cX6_taken 7 = .ok (.ifCond .ne 6, 3) := by decide +kernel
theorem dX6_taken_10 : decode cX6_taken 10 = .ok (.bipush (-2), 2) := by decide +kernel
theorem dX6_taken_12 : decode cX6_taken 12 = .ok (.ireturn, 1) := by decide +kernel
theorem dX6_taken_13 : decode cX6_taken 13 = .ok (.iload_n 1, 1) := by decide +kernel
theorem dX6_taken_14 : decode cX6_taken 14 = .ok (.iconst 0, 1) := by decide +kernel
theorem dX6_taken_15 : decode cX6_taken 15 = .ok (.bipush 13, 2) := by decide +kernel
theorem dX6_taken_17 : decode cX6_taken 17 = .ok (.invokestatic 81, 3) := by decide +kernel
theorem dX6_taken_20 : decode cX6_taken 20 = .ok (.ifCond .ne 6, 3) := by decide +kernel
theorem dX6_taken_23 : decode cX6_taken 23 = .ok (.bipush (-12), 2) := by decide +kernel
theorem dX6_taken_25 : decode cX6_taken 25 = .ok (.ireturn, 1) := by decide +kernel
theorem dX6_taken_26 : decode cX6_taken 26 = .ok (.iload_n 1, 1) := by decide +kernel
theorem dX6_taken_27 : decode cX6_taken 27 = .ok (.bipush 6, 2) := by decide +kernel
theorem dX6_taken_29 : decode cX6_taken 29 = .ok (.if_icmp .lt 43, 3) := by decide +kernel
theorem dX6_taken_32 : decode cX6_taken 32 = .ok (.iload_n 1, 1) := by decide +kernel
theorem dX6_taken_33 : decode cX6_taken 33 = .ok (.bipush 6, 2) := by decide +kernel
theorem dX6_taken_35 : decode cX6_taken 35 = .ok (.isub, 1) := by decide +kernel
theorem dX6_taken_36 : decode cX6_taken 36 = .ok (.istore_n 3, 1) := by decide +kernel
theorem dX6_taken_37 : decode cX6_taken 37 = .ok (.aload_n 0, 1) := by decide +kernel
theorem dX6_taken_38 : decode cX6_taken 38 = .ok (.iload_n 3, 1) := by decide +kernel
theorem dX6_taken_39 : decode cX6_taken 39 = .ok (.invokevirtual 89, 3) := by decide +kernel
theorem dX6_taken_42 : decode cX6_taken 42 = .ok (.ifCond .ne 8, 3) := by decide +kernel
theorem dX6_taken_45 : decode cX6_taken 45 = .ok (.bipush (-11), 2) := by decide +kernel
theorem dX6_taken_47 : decode cX6_taken 47 = .ok (.goto 24, 3) := by decide +kernel
theorem dX6_taken_50 : decode cX6_taken 50 = .ok (.iload_n 2, 1) := by decide +kernel
theorem dX6_taken_51 : decode cX6_taken 51 = .ok (.bipush 6, 2) := by decide +kernel
theorem dX6_taken_53 : decode cX6_taken 53 = .ok (.if_icmp .ne 16, 3) := by decide +kernel
theorem dX6_taken_56 : decode cX6_taken 56 = .ok (.aload_n 0, 1) := by decide +kernel
theorem dX6_taken_57 : decode cX6_taken 57 = .ok (.getfield 19, 3) := by decide +kernel
theorem dX6_taken_60 : decode cX6_taken 60 = .ok (.iconst 3, 1) := by decide +kernel
theorem dX6_taken_61 : decode cX6_taken 61 = .ok (.iload_n 3, 1) := by decide +kernel
theorem dX6_taken_62 : decode cX6_taken 62 = .ok (.imul, 1) := by decide +kernel
theorem dX6_taken_63 : decode cX6_taken 63 = .ok (.iconst 1, 1) := by decide +kernel
theorem dX6_taken_64 : decode cX6_taken 64 = .ok (.iadd, 1) := by decide +kernel
theorem dX6_taken_65 : decode cX6_taken 65 = .ok (.iaload, 1) := by decide +kernel
theorem dX6_taken_66 : decode cX6_taken 66 = .ok (.goto 5, 3) := by decide +kernel
theorem dX6_taken_69 : decode cX6_taken 69 = .ok (.bipush (-13), 2) := by decide +kernel
theorem dX6_taken_71 : decode cX6_taken 71 = .ok (.ireturn, 1) := by decide +kernel
theorem dX6_taken_72 : decode cX6_taken 72 = .ok (.iload_n 1, 1) := by decide +kernel
theorem dX6_taken_73 : decode cX6_taken 73 = .ok (.aload_n 0, 1) := by decide +kernel
theorem dX6_taken_74 : decode cX6_taken 74 = .ok (.getfield 78, 3) := by decide +kernel
theorem dX6_taken_77 : decode cX6_taken 77 = .ok (.if_icmp .lt 8, 3) := by decide +kernel
theorem dX6_taken_80 : decode cX6_taken 80 = .ok (.bipush (-11), 2) := by decide +kernel
theorem dX6_taken_82 : decode cX6_taken 82 = .ok (.goto 28, 3) := by decide +kernel
theorem dX6_taken_85 : decode cX6_taken 85 = .ok (.iload_n 2, 1) := by decide +kernel
theorem dX6_taken_86 : decode cX6_taken 86 = .ok (.bipush 6, 2) := by decide +kernel
theorem dX6_taken_88 : decode cX6_taken 88 = .ok (.if_icmp .ge 20, 3) := by decide +kernel
theorem dX6_taken_91 : decode cX6_taken 91 = .ok (.aload_n 0, 1) := by decide +kernel
theorem dX6_taken_92 : decode cX6_taken 92 = .ok (.getfield 7, 3) := by decide +kernel
theorem dX6_taken_95 : decode cX6_taken 95 = .ok (.iload_n 1, 1) := by decide +kernel
theorem dX6_taken_96 : decode cX6_taken 96 = .ok (.iaload, 1) := by decide +kernel
theorem dX6_taken_97 : decode cX6_taken 97 = .ok (.iload_n 2, 1) := by decide +kernel
theorem dX6_taken_98 : decode cX6_taken 98 = .ok (.invokestatic 278, 3) := by decide +kernel
theorem dX6_taken_101 : decode cX6_taken 101 = .ok (.ifCond .eq 7, 3) := by decide +kernel
theorem dX6_taken_104 : decode cX6_taken 104 = .ok (.iload_n 1, 1) := by decide +kernel
theorem dX6_taken_105 : decode cX6_taken 105 = .ok (.goto 5, 3) := by decide +kernel
theorem dX6_taken_108 : decode cX6_taken 108 = .ok (.bipush (-13), 2) := by decide +kernel
theorem dX6_taken_110 : decode cX6_taken 110 = .ok (.ireturn, 1) := by decide +kernel

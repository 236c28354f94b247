theorem dX5_feed_7 : decode cX5_feed 7 = .ok (.if_icmp .gt 41, 3) := by decide +kernel
theorem dX5_feed_10 : decode cX5_feed 10 = .ok (.iload_n 2, 1) := by decide +kernel
theorem dX5_feed_11 : decode cX5_feed 11 = .ok (.invokestatic 103, 3) := by decide +kernel
theorem dX5_feed_14 : decode cX5_feed 14 = .ok (.ifCond .eq 34, 3) := by decide +kernel
theorem dX5_feed_17 : decode cX5_feed 17 = .ok (.iload_n 3, 1) := by decide +kernel
theorem dX5_feed_18 : decode cX5_feed 18 = .ok (.invokestatic 103, 3) := by decide +kernel
theorem dX5_feed_21 : decode cX5_feed 21 = .ok (.ifCond .eq 27, 3) := by decide +kernel
theorem dX5_feed_24 : decode cX5_feed 24 = .ok (.iload 4, 2) := by decide +kernel
theorem dX5_feed_26 : decode cX5_feed 26 = .ok (.invokestatic 103, 3) := by decide +kernel
theorem dX5_feed_29 : decode cX5_feed 29 = .ok (.ifCond .eq 19, 3) := by decide +kernel
theorem dX5_feed_32 : decode cX5_feed 32 = .ok (.iload 5, 2) := by decide +kernel
theorem dX5_feed_34 : decode cX5_feed 34 = .ok (.invokestatic 103, 3) := by decide +kernel
theorem dX5_feed_37 : decode cX5_feed 37 = .ok (.ifCond .eq 11, 3) := by decide +kernel
theorem dX5_feed_40 : decode cX5_feed 40 = .ok (.iload 6, 2) := by decide +kernel
theorem dX5_feed_42 : decode cX5_feed 42 = .ok (.invokestatic 103, 3) := by decide +kernel
theorem dX5_feed_45 : decode cX5_feed 45 = .ok (.ifCond .ne 6, 3) := by decide +kernel
theorem dX5_feed_48 : decode cX5_feed 48 = .ok (.bipush (-2), 2) := by decide +kernel
theorem dX5_feed_50 : decode cX5_feed 50 = .ok (.ireturn, 1) := by decide +kernel
theorem dX5_feed_51 : decode cX5_feed 51 = .ok (.aload_n 0, 1) := by decide +kernel
theorem dX5_feed_52 : decode cX5_feed 52 = .ok (.getfield 18, 3) := by decide +kernel
theorem dX5_feed_55 : decode cX5_feed 55 = .ok (.getfield 72, 3) := by decide +kernel
theorem dX5_feed_58 : decode cX5_feed 58 = .ok (.iload_n 1, 1) := by decide +kernel
theorem dX5_feed_59 : decode cX5_feed 59 = .ok (.iadd, 1) := by decide +kernel
theorem dX5_feed_60 : decode cX5_feed 60 = .ok (.sipush 160, 3) := by decide +kernel
theorem dX5_feed_63 : decode cX5_feed 63 = .ok (.if_icmp .le 6, 3) := by decide +kernel
theorem dX5_feed_66 : decode cX5_feed 66 = .ok (.bipush (-4), 2) := by decide +kernel
theorem dX5_feed_68 : decode cX5_feed 68 = .ok (.ireturn, 1) := by decide +kernel
theorem dX5_feed_69 : decode cX5_feed 69 = .ok (.aload_n 0, 1) := by decide +kernel
theorem dX5_feed_70 : decode cX5_feed 70 = .ok (.getfield 18, 3) := by decide +kernel
theorem dX5_feed_73 : decode cX5_feed 73 = .ok (.iload_n 2, 1) := by decide +kernel
theorem dX5_feed_74 : decode cX5_feed 74 = .ok (.invokevirtual 107, 3) := by decide +kernel
theorem dX5_feed_77 : decode cX5_feed 77 = .ok (.iconst 1, 1) := by decide +kernel
theorem dX5_feed_78 : decode cX5_feed 78 = .ok (.istore 7, 2) := by decide +kernel
theorem dX5_feed_80 : decode cX5_feed 80 = .ok (.iload 7, 2) := by decide +kernel
theorem dX5_feed_82 : decode cX5_feed 82 = .ok (.iload_n 1, 1) := by decide +kernel
theorem dX5_feed_83 : decode cX5_feed 83 = .ok (.if_icmp .ge 50, 3) := by decide +kernel
theorem dX5_feed_86 : decode cX5_feed 86 = .ok (.aload_n 0, 1) := by decide +kernel
theorem dX5_feed_87 : decode cX5_feed 87 = .ok (.getfield 18, 3) := by decide +kernel
theorem dX5_feed_90 : decode cX5_feed 90 = .ok (.iload 7, 2) := by decide +kernel
theorem dX5_feed_92 : decode cX5_feed 92 = .ok (.iconst 1, 1) := by decide +kernel
theorem dX5_feed_93 : decode cX5_feed 93 = .ok (.if_icmp .ne 7, 3) := by decide +kernel
theorem dX5_feed_96 : decode cX5_feed 96 = .ok (.iload_n 3, 1) := by decide +kernel
theorem dX5_feed_97 : decode cX5_feed 97 = .ok (.goto 27, 3) := by decide +kernel
theorem dX5_feed_100 : decode cX5_feed 100 = .ok (.iload 7, 2) := by decide +kernel
theorem dX5_feed_102 : decode cX5_feed 102 = .ok (.iconst 2, 1) := by decide +kernel
theorem dX5_feed_103 : decode cX5_feed 103 = .ok (.if_icmp .ne 8, 3) := by decide +kernel
theorem dX5_feed_106 : decode cX5_feed 106 = .ok (.iload 4, 2) := by decide +kernel
theorem dX5_feed_108 : decode cX5_feed 108 = .ok (.goto 16, 3) := by decide +kernel
theorem dX5_feed_111 : decode cX5_feed 111 = .ok (.iload 7, 2) := by decide +kernel
theorem dX5_feed_113 : decode cX5_feed 113 = .ok (.iconst 3, 1) := by decide +kernel
theorem dX5_feed_114 : decode cX5_feed 114 = .ok (.if_icmp .ne 8, 3) := by decide +kernel
theorem dX5_feed_117 : decode cX5_feed 117 = .ok (.iload 5, 2) := by decide +kernel
theorem dX5_feed_119 : decode cX5_feed 119 = .ok (.goto 5, 3) := by decide +kernel
theorem dX5_feed_122 : decode cX5_feed 122 = .ok (.iload 6, 2) := by decide +kernel
theorem dX5_feed_124 : decode cX5_feed 124 = .ok (.invokevirtual 107, 3) := by decide +kernel
theorem dX5_feed_127 : decode cX5_feed 127 = .ok (.iinc 7 1, 3) := by decide +kernel
theorem dX5_feed_130 : decode cX5_feed 130 = .ok (.goto (-50), 3) := by decide +kernel
theorem dX5_feed_133 : decode cX5_feed 133 = .ok (.aload_n 0, 1) := by decide +kernel
theorem dX5_feed_134 : decode cX5_feed 134 = .ok (.getfield 18, 3) := by decide +kernel
theorem dX5_feed_137 : decode cX5_feed 137 = .ok (.getfield 72, 3) := by decide +kernel
theorem dX5_feed_140 : decode cX5_feed 140 = .ok (.ireturn, 1) := by decide +kernel
set_option maxRecDepth 20000 in
theorem ggX5_isByte_X5_isBelow : GoodIn wsX5_isByte wsX5_isBelow := goodIn_r _ [4] rfl (by decide +kernel)
set_option maxRecDepth 20000 in
theorem gX5_isByte_X5_isBelow : GoodIn wsX5_isByte (va_wsS RX5 100 yX5_isBelow wsX5_isBelow) := goodIn_app (goodIn_of _ (by decide +kernel)) ggX5_isByte_X5_isBelow
theorem dX5_isByte_0 : decode cX5_isByte 0 = .ok (.iload_n 0, 1) := by decide +kernel
theorem dX5_isByte_1 : decode cX5_isByte 1 = .ok (.sipush 256, 3) := by decide +kernel
theorem dX5_isByte_4 : decode cX5_isByte 4 = .ok (.invokestatic 100, 3) := by decide +kernel
theorem dX5_isByte_7 : decode cX5_isByte 7 = .ok (.ireturn, 1) := by decide +kernel
set_option maxRecDepth 20000 in
theorem ggX5_text_X4_fault : GoodIn wsX5_text wsX4_fault := goodIn_r _ [8, 9, 10, 11, 12, 13, 14, 15, 16, 7, 17, 18, 19, 20, 21, 22, 23, 24, 25, 26, 27, 28, 29, 30, 31, 32, 33, 34, 35, 36, 37, 38, 39, 40, 41, 42, 43, 44, 45, 46, 47, 48, 49, 50, 51, 52, 53, 54, 55, 56, 57, 58, 59, 60, 61, 62, 63, 64, 65, 66, 67, 68, 69, 70, 71, 72, 73, 74, 75, 76, 77, 78, 79, 80, 81, 82, 83, 84, 85, 86, 87, 88, 89, 90, 91, 92, 93, 94, 95, 96, 97, 98, 99, 100, 101, 102, 103, 104, 105, 106, 107, 108, 109, 110, 111, 112, 113, 114, 115, 116, 117, 118, 119, 120, 121, 122, 123, 124, 125, 126, 127, 128, 129, 130, 131, 132, 133, 134, 135, 136, 137, 138, 139, 140, 141, 142, 143, 144, 145, 146, 147, 148, 149, 150, 151, 152, 153, 154, 155, 156, 157, 158, 159, 160, 161, 162, 163, 164, 165, 166, 167, 168, 169, 170, 171, 172, 173, 174, 175, 176, 177, 178, 179, 180, 181, 182, 183, 184, 185, 186, 187, 188, 189, 234, 235, 236, 237, 238, 239, 240, 241, 242] rfl (by decide +kernel)
set_option maxRecDepth 20000 in
theorem gX5_text_X4_fault : GoodIn wsX5_text (wsV RX5 111 RX4 yX4_fault wsX4_fault) := goodIn_app (goodIn_of _ (by decide +kernel)) ggX5_text_X4_fault
set_option maxRecDepth 20000 in
theorem ggX5_text_X4_lawRead : GoodIn wsX5_text wsX4_lawRead := goodIn_r _ [193, 194, 195, 196, 164, 10, 11, 197, 198, 199, 200, 201, 202, 203, 204, 205, 206, 207, 208, 105, 102, 106, 209, 210, 211, 212, 213, 214, 215, 216, 217, 218, 219, 220, 221, 222, 243, 244, 245, 246, 234, 235, 236, 237, 238, 239, 240, 241, 242] rfl (by decide +kernel)
set_option maxRecDepth 20000 in
theorem gX5_text_X4_lawRead : GoodIn wsX5_text (wsV RX5 114 RX4 yX4_lawRead wsX4_lawRead) := goodIn_app (goodIn_of _ (by decide +kernel)) ggX5_text_X4_lawRead
theorem dX5_text_0 : decode cX5_text 0 = .ok (.aload_n 0, 1) := by decide +kernel
theorem dX5_text_1 : decode cX5_text 1 = .ok (.getfield 37, 3) := by decide +kernel
theorem dX5_text_4 : decode cX5_text 4 = .ok (.bipush 6, 2) := by decide +kernel
theorem dX5_text_6 : decode cX5_text 6 = .ok (.if_icmp .lt 6, 3) := by decide +kernel
theorem dX5_text_9 : decode cX5_text 9 = .ok (.bipush (-4), 2) := by decide +kernel
theorem dX5_text_11 : decode cX5_text 11 = .ok (.ireturn, 1) := by decide +kernel
theorem dX5_text_12 : decode cX5_text 12 = .ok (.aload_n 0, 1) := by decide +kernel
theorem dX5_text_13 : decode cX5_text 13 = .ok (.getfield 18, 3) := by decide +kernel
theorem dX5_text_16 : decode cX5_text 16 = .ok (.invokevirtual 111, 3) := by decide +kernel
theorem dX5_text_19 : decode cX5_text 19 = .ok (.istore_n 1, 1) := by decide +kernel
theorem dX5_text_20 : decode cX5_text 20 = .ok (.aload_n 0, 1) := by decide +kernel
theorem dX5_text_21 : decode cX5_text 21 = .ok (.getfield 18, 3) := by decide +kernel
theorem dX5_text_24 : decode cX5_text 24 = .ok (.iconst 0, 1) := by decide +kernel
theorem dX5_text_25 : decode cX5_text 25 = .ok (.putfield 72, 3) := by decide +kernel
theorem dX5_text_28 : decode cX5_text 28 = .ok (.iload_n 1, 1) := by decide +kernel
theorem dX5_text_29 : decode cX5_text 29 = .ok (.iconst (-1), 1) := by decide +kernel
theorem dX5_text_30 : decode cX5_text 30 = .ok (.if_icmp .eq 8, 3) := by decide +kernel
theorem dX5_text_33 : decode cX5_text 33 = .ok (.bipush (-100), 2) := by decide +kernel
theorem dX5_text_35 : decode cX5_text 35 = .ok (.iload_n 1, 1) := by decide +kernel
theorem dX5_text_36 : decode cX5_text 36 = .ok (.isub, 1) := by decide +kernel
theorem dX5_text_37 : decode cX5_text 37 = .ok (.ireturn, 1) := by decide +kernel
theorem dX5_text_38 : decode cX5_text 38 = .ok (.aload_n 0, 1) := by decide +kernel
theorem dX5_text_39 : decode cX5_text 39 = .ok (.getfield 37, 3) := by decide +kernel
theorem dX5_text_42 : decode cX5_text 42 = .ok (.istore_n 2, 1) := by decide +kernel
theorem dX5_text_43 : decode cX5_text 43 = .ok (.aload_n 0, 1) := by decide +kernel
theorem dX5_text_44 : decode cX5_text 44 = .ok (.getfield 11, 3) := by decide +kernel
theorem dX5_text_47 : decode cX5_text 47 = .ok (.iload_n 2, 1) := by decide +kernel
theorem dX5_text_48 : decode cX5_text 48 = .ok (.aload_n 0, 1) := by decide +kernel
theorem dX5_text_49 : decode cX5_text 49 = .ok (.getfield 18, 3) := by decide +kernel
theorem dX5_text_52 : decode cX5_text 52 = .ok (.iload_n 2, 1) := by decide +kernel
theorem dX5_text_53 : decode cX5_text 53 = .ok (.invokevirtual 114, 3) := by decide +kernel
theorem dX5_text_56 : decode cX5_text 56 = .ok (.aastore, 1) := by decide +kernel
theorem dX5_text_57 : decode cX5_text 57 = .ok (.aload_n 0, 1) := by decide +kernel
theorem dX5_text_58 : decode cX5_text 58 = .ok (.dup, 1) := by decide +kernel
theorem dX5_text_59 : decode cX5_text 59 = .ok (.getfield 37, 3) := by decide +kernel
theorem dX5_text_62 : decode cX5_text 62 = .ok (.iconst 1, 1) := by decide +kernel
theorem dX5_text_63 : decode cX5_text 63 = .ok (.iadd, 1) := by decide +kernel
theorem dX5_text_64 : decode cX5_text 64 = .ok (.putfield 37, 3) := by decide +kernel
theorem dX5_text_67 : decode cX5_text 67 = .ok (.iload_n 2, 1) := by decide +kernel
theorem dX5_text_68 : decode cX5_text 68 = .ok (.ireturn, 1) := by decide +kernel
set_option maxRecDepth 20000 in
theorem ggX5_force_X5_isBelow : GoodIn wsX5_force wsX5_isBelow := goodIn_r _ [7] rfl (by decide +kernel)
set_option maxRecDepth 20000 in
theorem gX5_force_X5_isBelow : GoodIn wsX5_force (va_wsS RX5 100 yX5_isBelow wsX5_isBelow) := goodIn_app (goodIn_of _ (by decide +kernel)) ggX5_force_X5_isBelow
theorem dX5_force_0 : decode cX5_force 0 = .ok (.iload_n 1, 1) := by decide +kernel
theorem dX5_force_1 : decode cX5_force 1 = .ok (.aload_n 0, 1) := by decide +kernel
theorem dX5_force_2 : decode cX5_force 2 = .ok (.getfield 37, 3) := by decide +kernel
theorem dX5_force_5 : decode cX5_force 5 = .ok (.invokestatic 100, 3) := by decide +kernel
theorem dX5_force_8 : decode cX5_force 8 = .ok (.ifCond .ne 6, 3) := by decide +kernel
theorem dX5_force_11 : decode cX5_force 11 = .ok (.bipush (-2), 2) := by decide +kernel
theorem dX5_force_13 : decode cX5_force 13 = .ok (.ireturn, 1) := by decide +kernel
theorem dX5_force_14 : decode cX5_force 14 = .ok (.aload_n 0, 1) := by decide +kernel
theorem dX5_force_15 : decode cX5_force 15 = .ok (.getfield 44, 3) := by decide +kernel
theorem dX5_force_18 : decode cX5_force 18 = .ok (.getfield 65, 3) := by decide +kernel
theorem dX5_force_21 : decode cX5_force 21 = .ok (.getfield 69, 3) := by decide +kernel
theorem dX5_force_24 : decode cX5_force 24 = .ok (.istore_n 2, 1) := by decide +kernel
theorem dX5_force_25 : decode cX5_force 25 = .ok (.aload_n 0, 1) := by decide +kernel
theorem dX5_force_26 : decode cX5_force 26 = .ok (.getfield 44, 3) := by decide +kernel
theorem dX5_force_29 : decode cX5_force 29 = .ok (.aload_n 0, 1) := by decide +kernel
theorem dX5_force_30 : decode cX5_force 30 = .ok (.getfield 11, 3) := by decide +kernel
theorem dX5_force_33 : decode cX5_force 33 = .ok (.iload_n 1, 1) := by decide +kernel
theorem dX5_force_34 : decode cX5_force 34 = .ok (.aaload, 1) := by decide +kernel
theorem dX5_force_35 : decode cX5_force 35 = .ok (.putfield 65, 3) := by decide +kernel
theorem dX5_force_38 : decode cX5_force 38 = .ok (.iload_n 2, 1) := by decide +kernel
theorem dX5_force_39 : decode cX5_force 39 = .ok (.ireturn, 1) := by decide +kernel
set_option maxRecDepth 20000 in
theorem ggX5_asks_X5_isBelow : GoodIn wsX5_asks wsX5_isBelow := goodIn_r _ [5] rfl (by decide +kernel)
set_option maxRecDepth 20000 in
theorem gX5_asks_X5_isBelow : GoodIn wsX5_asks (va_wsS RX5 100 yX5_isBelow wsX5_isBelow) := goodIn_app (goodIn_of _ (by decide +kernel)) ggX5_asks_X5_isBelow
set_option maxRecDepth 20000 in
theorem ggX5_asks_X0_hasWitness : GoodIn wsX5_asks wsX0_hasWitness := goodIn_r _ [10, 11, 3, 4, 5, 67, 68, 69, 70, 71, 72, 73, 74, 75, 76, 77, 78, 79, 80, 81] rfl (by decide +kernel)
set_option maxRecDepth 20000 in
theorem gX5_asks_X0_hasWitness : GoodIn wsX5_asks (wsV RX5 118 RX0 yX0_hasWitness wsX0_hasWitness) := goodIn_app (goodIn_of _ (by decide +kernel)) ggX5_asks_X0_hasWitness
set_option maxRecDepth 20000 in
theorem ggX5_asks_X2_says : GoodIn wsX5_asks wsX2_says := goodIn_r _ [16, 17, 18, 19, 20, 21, 22, 9, 23, 24, 25, 26, 27, 28, 29, 30, 31, 32, 33, 34, 35, 36, 37, 38, 39, 40, 41, 42, 15, 43, 44, 45, 46, 47, 4, 48, 49, 50, 51, 52, 53, 54, 55, 67, 68, 69, 70, 71, 72, 73, 74, 75, 76, 77, 78, 79, 80, 81, 82, 83, 84, 85] rfl (by decide +kernel)
set_option maxRecDepth 20000 in
theorem gX5_asks_X2_says : GoodIn wsX5_asks (wsV RX5 121 RX2 yX2_says wsX2_says) := goodIn_app (goodIn_of _ (by decide +kernel)) ggX5_asks_X2_says
theorem dX5_asks_0 : decode cX5_asks 0 = .ok (.iload_n 1, 1) := by decide +kernel
theorem dX5_asks_1 : decode cX5_asks 1 = .ok (.iconst 3, 1) := by decide +kernel
theorem dX5_asks_2 : decode cX5_asks 2 = .ok (.invokestatic 100, 3) := by decide +kernel
theorem dX5_asks_5 : decode cX5_asks 5 = .ok (.ifCond .eq 14, 3) := by decide +kernel
theorem dX5_asks_8 : decode cX5_asks 8 = .ok (.aload_n 0, 1) := by decide +kernel
theorem dX5_asks_9 : decode cX5_asks 9 = .ok (.getfield 44, 3) := by decide +kernel
theorem dX5_asks_12 : decode cX5_asks 12 = .ok (.iload_n 2, 1) := by decide +kernel
theorem dX5_asks_13 : decode cX5_asks 13 = .ok (.invokevirtual 118, 3) := by decide +kernel
theorem dX5_asks_16 : decode cX5_asks 16 = .ok (.ifCond .ne 7, 3) := by decide +kernel
theorem dX5_asks_19 : decode cX5_asks 19 = .ok (.sipush (-1000), 3) := by decide +kernel
theorem dX5_asks_22 : decode cX5_asks 22 = .ok (.ireturn, 1) := by decide +kernel
theorem dX5_asks_23 : decode cX5_asks 23 = .ok (.aload_n 0, 1) := by decide +kernel
theorem dX5_asks_24 : decode cX5_asks 24 = .ok (.getfield 44, 3) := by decide +kernel
theorem dX5_asks_27 : decode cX5_asks 27 = .ok (.getfield 65, 3) := by decide +kernel
theorem dX5_asks_30 : decode cX5_asks 30 = .ok (.iload_n 1, 1) := by decide +kernel
theorem dX5_asks_31 : decode cX5_asks 31 = .ok (.aload_n 0, 1) := by decide +kernel
theorem dX5_asks_32 : decode cX5_asks 32 = .ok (.getfield 44, 3) := by decide +kernel
theorem dX5_asks_35 : decode cX5_asks 35 = .ok (.iload_n 2, 1) := by decide +kernel
theorem dX5_asks_36 : decode cX5_asks 36 = .ok (.invokevirtual 121, 3) := by decide +kernel
theorem dX5_asks_39 : decode cX5_asks 39 = .ok (.ireturn, 1) := by decide +kernel
set_option maxRecDepth 20000 in
theorem ggX5_witness_X5_isBelow : GoodIn wsX5_witness wsX5_isBelow := goodIn_r _ [5] rfl (by decide +kernel)
set_option maxRecDepth 20000 in
theorem gX5_witness_X5_isBelow : GoodIn wsX5_witness (va_wsS RX5 100 yX5_isBelow wsX5_isBelow) := goodIn_app (goodIn_of _ (by decide +kernel)) ggX5_witness_X5_isBelow
set_option maxRecDepth 20000 in
theorem ggX5_witness_X0_welcome : GoodIn wsX5_witness wsX0_welcome := goodIn_r _ [10, 11, 12, 13, 14, 15, 16, 28, 29, 30, 31, 32, 33, 34, 35, 36, 37, 38, 39, 40, 41, 42] rfl (by decide +kernel)
set_option maxRecDepth 20000 in
theorem gX5_witness_X0_welcome : GoodIn wsX5_witness (wsV RX5 125 RX0 yX0_welcome wsX0_welcome) := goodIn_app (goodIn_of _ (by decide +kernel)) ggX5_witness_X0_welcome
theorem dX5_witness_0 : decode cX5_witness 0 = .ok (.iload_n 1, 1) := by decide +kernel
theorem dX5_witness_1 : decode cX5_witness 1 = .ok (.bipush 60, 2) := by decide +kernel
theorem dX5_witness_3 : decode cX5_witness 3 = .ok (.invokestatic 100, 3) := by decide +kernel
theorem dX5_witness_6 : decode cX5_witness 6 = .ok (.ifCond .eq 22, 3) := by decide +kernel
theorem dX5_witness_9 : decode cX5_witness 9 = .ok (.iload_n 2, 1) := by decide +kernel
theorem dX5_witness_10 : decode cX5_witness 10 = .ok (.sipush 1024, 3) := by decide +kernel
theorem dX5_witness_13 : decode cX5_witness 13 = .ok (.invokestatic 100, 3) := by decide +kernel
theorem dX5_witness_16 : decode cX5_witness 16 = .ok (.ifCond .eq 12, 3) := by decide +kernel
theorem dX5_witness_19 : decode cX5_witness 19 = .ok (.iload_n 3, 1) := by decide +kernel
theorem dX5_witness_20 : decode cX5_witness 20 = .ok (.bipush 100, 2) := by decide +kernel
theorem dX5_witness_22 : decode cX5_witness 22 = .ok (.invokestatic 100, 3) := by decide +kernel
theorem dX5_witness_25 : decode cX5_witness 25 = .ok (.ifCond .ne 6, 3) := by decide +kernel
theorem dX5_witness_28 : decode cX5_witness 28 = .ok (.bipush (-2), 2) := by decide +kernel
theorem dX5_witness_30 : decode cX5_witness 30 = .ok (.ireturn, 1) := by decide +kernel
theorem dX5_witness_31 : decode cX5_witness 31 = .ok (.aload_n 0, 1) := by decide +kernel
theorem dX5_witness_32 : decode cX5_witness 32 = .ok (.getfield 44, 3) := by decide +kernel
theorem dX5_witness_35 : decode cX5_witness 35 = .ok (.getfield 55, 3) := by decide +kernel
theorem dX5_witness_38 : decode cX5_witness 38 = .ok (.bipush 6, 2) := by decide +kernel
theorem dX5_witness_40 : decode cX5_witness 40 = .ok (.if_icmp .lt 8, 3) := by decide +kernel
theorem dX5_witness_43 : decode cX5_witness 43 = .ok (.bipush (-4), 2) := by decide +kernel
theorem dX5_witness_45 : decode cX5_witness 45 = .ok (.goto 13, 3) := by decide +kernel
theorem dX5_witness_48 : decode cX5_witness 48 = .ok (.aload_n 0, 1) := by decide +kernel
theorem dX5_witness_49 : decode cX5_witness 49 = .ok (.getfield 44, 3) := by decide +kernel
theorem dX5_witness_52 : decode cX5_witness 52 = .ok (.iload_n 1, 1) := by decide +kernel
theorem dX5_witness_53 : decode cX5_witness 53 = .ok (.iload_n 2, 1) := by decide +kernel
theorem dX5_witness_54 : decode cX5_witness 54 = .ok (.iload_n 3, 1) := by decide +kernel
theorem dX5_witness_55 : decode cX5_witness 55 = .ok (.invokevirtual 125, 3) := by decide +kernel
theorem dX5_witness_58 : decode cX5_witness 58 = .ok (.ireturn, 1) := by decide +kernel
set_option maxRecDepth 20000 in
theorem ggX5_put_X0_hasWitness : GoodIn wsX5_put wsX0_hasWitness := goodIn_r _ [6, 7, 8, 9, 10, 26, 27, 28, 29, 30, 31, 32, 33, 34, 35, 36, 37, 38, 39, 40] rfl (by decide +kernel)
set_option maxRecDepth 20000 in
theorem gX5_put_X0_hasWitness : GoodIn wsX5_put (wsV RX5 118 RX0 yX0_hasWitness wsX0_hasWitness) := goodIn_app (goodIn_of _ (by decide +kernel)) ggX5_put_X0_hasWitness
set_option maxRecDepth 20000 in
theorem ggX5_put_X5_isBelow : GoodIn wsX5_put wsX5_isBelow := goodIn_r _ [10] rfl (by decide +kernel)
set_option maxRecDepth 20000 in
theorem gX5_put_X5_isBelow : GoodIn wsX5_put (va_wsS RX5 100 yX5_isBelow wsX5_isBelow) := goodIn_app (goodIn_of _ (by decide +kernel)) ggX5_put_X5_isBelow
set_option maxRecDepth 20000 in
theorem ggX5_put_X5_replaced : GoodIn wsX5_put wsX5_replaced := goodIn_r _ [14] rfl (by decide +kernel)
set_option maxRecDepth 20000 in
theorem gX5_put_X5_replaced : GoodIn wsX5_put (va_wsS RX5 90 yX5_replaced wsX5_replaced) := goodIn_app (goodIn_of _ (by decide +kernel)) ggX5_put_X5_replaced
theorem dX5_put_0 : decode cX5_put 0 = .ok (.aload_n 0, 1) := by decide +kernel
theorem dX5_put_1 : decode cX5_put 1 = .ok (.getfield 44, 3) := by decide +kernel
theorem dX5_put_4 : decode cX5_put 4 = .ok (.iload_n 1, 1) := by decide +kernel
theorem dX5_put_5 : decode cX5_put 5 = .ok (.invokevirtual 118, 3) := by decide +kernel
theorem dX5_put_8 : decode cX5_put 8 = .ok (.ifCond .ne 6, 3) := by decide +kernel
theorem dX5_put_11 : decode cX5_put 11 = .ok (.bipush (-5), 2) := by decide +kernel
theorem dX5_put_13 : decode cX5_put 13 = .ok (.ireturn, 1) := by decide +kernel
theorem dX5_put_14 : decode cX5_put 14 = .ok (.iload_n 2, 1) := by decide +kernel
theorem dX5_put_15 : decode cX5_put 15 = .ok (.iconst 2, 1) := by decide +kernel
theorem dX5_put_16 : decode cX5_put 16 = .ok (.invokestatic 100, 3) := by decide +kernel
theorem dX5_put_19 : decode cX5_put 19 = .ok (.ifCond .eq 22, 3) := by decide +kernel
theorem dX5_put_22 : decode cX5_put 22 = .ok (.iload_n 3, 1) := by decide +kernel
theorem dX5_put_23 : decode cX5_put 23 = .ok (.iload_n 2, 1) := by decide +kernel
theorem dX5_put_24 : decode cX5_put 24 = .ok (.ifCond .ne 9, 3) := by decide +kernel
theorem dX5_put_27 : decode cX5_put 27 = .ok (.sipush 1024, 3) := by decide +kernel
theorem dX5_put_30 : decode cX5_put 30 = .ok (.goto 5, 3) := by decide +kernel
theorem dX5_put_33 : decode cX5_put 33 = .ok (.bipush 100, 2) := by decide +kernel
theorem dX5_put_35 : decode cX5_put 35 = .ok (.invokestatic 100, 3) := by decide +kernel
theorem dX5_put_38 : decode cX5_put 38 = .ok (.ifCond .ne 6, 3) := by decide +kernel
theorem dX5_put_41 : decode cX5_put 41 = .ok (.bipush (-7), 2) := by decide +kernel
theorem dX5_put_43 : decode cX5_put 43 = .ok (.ireturn, 1) := by decide +kernel
theorem dX5_put_44 : decode cX5_put 44 = .ok (.iload_n 2, 1) := by decide +kernel
theorem dX5_put_45 : decode cX5_put 45 = .ok (.ifCond .ne 13, 3) := by decide +kernel
theorem dX5_put_48 : decode cX5_put 48 = .ok (.aload_n 0, 1) := by decide +kernel
theorem dX5_put_49 : decode cX5_put 49 = .ok (.getfield 44, 3) := by decide +kernel
theorem dX5_put_52 : decode cX5_put 52 = .ok (.getfield 129, 3) := by decide +kernel
theorem dX5_put_55 : decode cX5_put 55 = .ok (.goto 10, 3) := by decide +kernel
theorem dX5_put_58 : decode cX5_put 58 = .ok (.aload_n 0, 1) := by decide +kernel
theorem dX5_put_59 : decode cX5_put 59 = .ok (.getfield 44, 3) := by decide +kernel
theorem dX5_put_62 : decode cX5_put 62 = .ok (.getfield 132, 3) := by decide +kernel
theorem dX5_put_65 : decode cX5_put 65 = .ok (.iload_n 1, 1) := by decide +kernel
theorem dX5_put_66 : decode cX5_put 66 = .ok (.iload_n 3, 1) := by decide +kernel
theorem dX5_put_67 : decode cX5_put 67 = .ok (.invokestatic 90, 3) := by decide +kernel
theorem dX5_put_70 : decode cX5_put 70 = .ok (.ireturn, 1) := by decide +kernel
set_option maxRecDepth 20000 in
theorem ggX5_told_X0_hasWitness : GoodIn wsX5_told wsX0_hasWitness := goodIn_r _ [6, 7, 8, 9, 10, 111, 112, 113, 114, 115, 116, 117, 118, 119, 120, 121, 122, 123, 124, 125] rfl (by decide +kernel)
set_option maxRecDepth 20000 in
theorem gX5_told_X0_hasWitness : GoodIn wsX5_told (wsV RX5 118 RX0 yX0_hasWitness wsX0_hasWitness) := goodIn_app (goodIn_of _ (by decide +kernel)) ggX5_told_X0_hasWitness
set_option maxRecDepth 20000 in
theorem ggX5_told_X0_drops : GoodIn wsX5_told wsX0_drops := goodIn_r _ [14, 15, 16, 17, 18, 19, 20, 21, 22, 23, 24, 25, 26, 27, 28, 29, 30, 31, 32, 33, 34, 35, 36, 5, 37, 38, 39, 40, 41, 42, 43, 44, 45, 46, 47, 48, 49, 50, 51, 52, 9, 53, 54, 55, 56, 57, 58, 59, 60, 61, 62, 63, 64, 65, 66, 67, 68, 69, 111, 112, 113, 114, 115, 116, 117, 118, 119, 120, 121, 122, 123, 124, 125, 126, 127, 128, 129] rfl (by decide +kernel)
set_option maxRecDepth 20000 in
theorem gX5_told_X0_drops : GoodIn wsX5_told (wsV RX5 144 RX0 yX0_drops wsX0_drops) := goodIn_app (goodIn_of _ (by decide +kernel)) ggX5_told_X0_drops
set_option maxRecDepth 20000 in
theorem ggX5_told_X0_waits : GoodIn wsX5_told wsX0_waits := goodIn_r _ [73, 17, 16, 18, 39, 26, 27, 28, 29, 30, 31, 32, 33, 34, 35, 36, 5, 37, 38, 15, 40, 19, 20, 21, 22, 23, 24, 25, 41, 42, 43, 44, 45, 46, 47, 48, 49, 50, 51, 52, 9, 53, 54, 55, 56, 57, 58, 59, 60, 74, 75, 63, 76, 111, 112, 113, 114, 115, 116, 117, 118, 119, 120, 121, 122, 123, 124, 125, 126, 127, 128, 129] rfl (by decide +kernel)
set_option maxRecDepth 20000 in
theorem gX5_told_X0_waits : GoodIn wsX5_told (wsV RX5 147 RX0 yX0_waits wsX0_waits) := goodIn_app (goodIn_of _ (by decide +kernel)) ggX5_told_X0_waits
set_option maxRecDepth 20000 in
theorem ggX5_told_X0_linensOf : GoodIn wsX5_told wsX0_linensOf := goodIn_r _ [80, 45, 111, 112, 113, 114, 115, 116, 117, 118, 119, 120, 121, 122, 123, 124, 125] rfl (by decide +kernel)
set_option maxRecDepth 20000 in
theorem gX5_told_X0_linensOf : GoodIn wsX5_told (wsV RX5 150 RX0 yX0_linensOf wsX0_linensOf) := goodIn_app (goodIn_of _ (by decide +kernel)) ggX5_told_X0_linensOf
set_option maxRecDepth 20000 in
theorem ggX5_told_X0_stooping : GoodIn wsX5_told wsX0_stooping := goodIn_r _ [84, 85, 86, 87, 5, 88, 89, 90, 91, 92, 93, 17, 16, 18, 26, 27, 28, 29, 30, 31, 32, 33, 34, 35, 36, 37, 38, 15, 39, 40, 19, 20, 21, 22, 23, 24, 25, 41, 42, 43, 44, 45, 46, 47, 48, 49, 50, 51, 52, 9, 53, 54, 55, 56, 57, 58, 59, 60, 94, 95, 63, 96, 97, 98, 99, 111, 112, 113, 114, 115, 116, 117, 118, 119, 120, 121, 122, 123, 124, 125, 126, 127, 128, 129] rfl (by decide +kernel)
set_option maxRecDepth 20000 in
theorem gX5_told_X0_stooping : GoodIn wsX5_told (wsV RX5 153 RX0 yX0_stooping wsX0_stooping) := goodIn_app (goodIn_of _ (by decide +kernel)) ggX5_told_X0_stooping
theorem dX5_told_0 : decode cX5_told 0 = .ok (.aload_n 0, 1) := by decide +kernel
theorem dX5_told_1 : decode cX5_told 1 = .ok (.getfield 44, 3) := by decide +kernel
theorem dX5_told_4 : decode cX5_told 4 = .ok (.iload_n 1, 1) := by decide +kernel
theorem dX5_told_5 : decode cX5_told 5 = .ok (.invokevirtual 118, 3) := by decide +kernel
theorem dX5_told_8 : decode cX5_told 8 = .ok (.ifCond .ne 6, 3) := by decide +kernel
theorem dX5_told_11 : decode cX5_told 11 = .ok (.bipush (-5), 2) := by decide +kernel
theorem dX5_told_13 : decode cX5_told 13 = .ok (.ireturn, 1) := by decide +kernel
theorem dX5_told_14 : decode cX5_told 14 = .ok (.iload_n 2, 1) := by decide +kernel
theorem dX5_told_15 : decode cX5_told 15 = .ok (.tableswitch 135 0 8 #[49, 59, 69, 79, 89, 99, 108, 117, 126], 49) := by decide +kernel
theorem dX5_told_64 : decode cX5_told 64 = .ok (.aload_n 0, 1) := by decide +kernel
theorem dX5_told_65 : decode cX5_told 65 = .ok (.getfield 44, 3) := by decide +kernel
theorem dX5_told_68 : decode cX5_told 68 = .ok (.getfield 129, 3) := by decide +kernel
theorem dX5_told_71 : decode cX5_told 71 = .ok (.iload_n 1, 1) := by decide +kernel
theorem dX5_told_72 : decode cX5_told 72 = .ok (.iaload, 1) := by decide +kernel
theorem dX5_told_73 : decode cX5_told 73 = .ok (.ireturn, 1) := by decide +kernel
theorem dX5_told_74 : decode cX5_told 74 = .ok (.aload_n 0, 1) := by decide +kernel
theorem dX5_told_75 : decode cX5_told 75 = .ok (.getfield 44, 3) := by decide +kernel
theorem dX5_told_78 : decode cX5_told 78 = .ok (.getfield 132, 3) := by decide +kernel
theorem dX5_told_81 : decode cX5_told 81 = .ok (.iload_n 1, 1) := by decide +kernel
theorem dX5_told_82 : decode cX5_told 82 = .ok (.iaload, 1) := by decide +kernel
theorem dX5_told_83 : decode cX5_told 83 = .ok (.ireturn, 1) := by decide +kernel
theorem dX5_told_84 : decode cX5_told 84 = .ok (.aload_n 0, 1) := by decide +kernel
theorem dX5_told_85 : decode cX5_told 85 = .ok (.getfield 44, 3) := by decide +kernel
theorem dX5_told_88 : decode cX5_told 88 = .ok (.getfield 135, 3) := by decide +kernel
theorem dX5_told_91 : decode cX5_told 91 = .ok (.iload_n 1, 1) := by decide +kernel
theorem dX5_told_92 : decode cX5_told 92 = .ok (.iaload, 1) := by decide +kernel
theorem dX5_told_93 : decode cX5_told 93 = .ok (.ireturn, 1) := by decide +kernel
theorem dX5_told_94 : decode cX5_told 94 = .ok (.aload_n 0, 1) := by decide +kernel
theorem dX5_told_95 : decode cX5_told 95 = .ok (.getfield 44, 3) := by decide +kernel
theorem dX5_told_98 : decode cX5_told 98 = .ok (.getfield 138, 3) := by decide +kernel
theorem dX5_told_101 : decode cX5_told 101 = .ok (.iload_n 1, 1) := by decide +kernel
theorem dX5_told_102 : decode cX5_told 102 = .ok (.iaload, 1) := by decide +kernel
theorem dX5_told_103 : decode cX5_told 103 = .ok (.ireturn, 1) := by decide +kernel
theorem dX5_told_104 : decode cX5_told 104 = .ok (.aload_n 0, 1) := by decide +kernel
theorem dX5_told_105 : decode cX5_told 105 = .ok (.getfield 44, 3) := by decide +kernel
theorem dX5_told_108 : decode cX5_told 108 = .ok (.getfield 141, 3) := by decide +kernel
theorem dX5_told_111 : decode cX5_told 111 = .ok (.iload_n 1, 1) := by decide +kernel
theorem dX5_told_112 : decode cX5_told 112 = .ok (.iaload, 1) := by decide +kernel
theorem dX5_told_113 : decode cX5_told 113 = .ok (.ireturn, 1) := by decide +kernel
theorem dX5_told_114 : decode cX5_told 114 = .ok (.aload_n 0, 1) := by decide +kernel
theorem dX5_told_115 : decode cX5_told 115 = .ok (.getfield 44, 3) := by decide +kernel
theorem dX5_told_118 : decode cX5_told 118 = .ok (.iload_n 1, 1) := by decide +kernel
theorem dX5_told_119 : decode cX5_told 119 = .ok (.invokevirtual 144, 3) := by decide +kernel
theorem dX5_told_122 : decode cX5_told 122 = .ok (.ireturn, 1) := by decide +kernel
theorem dX5_told_123 : decode cX5_told 123 = .ok (.aload_n 0, 1) := by decide +kernel
theorem dX5_told_124 : decode cX5_told 124 = .ok (.getfield 44, 3) := by decide +kernel
theorem dX5_told_127 : decode cX5_told 127 = .ok (.iload_n 1, 1) := by decide +kernel
theorem dX5_told_128 : decode cX5_told 128 = .ok (.invokevirtual 147, 3) := by decide +kernel
theorem dX5_told_131 : decode cX5_told 131 = .ok (.ireturn, 1) := by decide +kernel
theorem dX5_told_132 : decode cX5_told 132 = .ok (.aload_n 0, 1) := by decide +kernel
theorem dX5_told_133 : decode cX5_told 133 = .ok (.getfield 44, 3) := by decide +kernel
theorem dX5_told_136 : decode cX5_told 136 = .ok (.iload_n 1, 1) := by decide +kernel
theorem dX5_told_137 : decode cX5_told 137 = .ok (.invokevirtual 150, 3) := by decide +kernel
theorem dX5_told_140 : decode cX5_told 140 = .ok (.ireturn, 1) := by decide +kernel
theorem dX5_told_141 : decode cX5_told 141 = .ok (.aload_n 0, 1) := by decide +kernel
theorem dX5_told_142 : decode cX5_told 142 = .ok (.getfield 44, 3) := by decide +kernel
theorem dX5_told_145 : decode cX5_told 145 = .ok (.iload_n 1, 1) := by decide +kernel
theorem dX5_told_146 : decode cX5_told 146 = .ok (.invokevirtual 153, 3) := by decide +kernel

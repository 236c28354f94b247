theorem dX0_passHours_108 : decode cX0_passHours 108 = .ok (.if_icmp .eq 11, 3) := by decide +kernel
theorem dX0_passHours_111 : decode cX0_passHours 111 = .ok (.aload_n 0, 1) := by decide +kernel
theorem dX0_passHours_112 : decode cX0_passHours 112 = .ok (.iload 5, 2) := by decide +kernel
theorem dX0_passHours_114 : decode cX0_passHours 114 = .ok (.iload 6, 2) := by decide +kernel
theorem dX0_passHours_116 : decode cX0_passHours 116 = .ok (.invokevirtual 123, 3) := by decide +kernel
theorem dX0_passHours_119 : decode cX0_passHours 119 = .ok (.iinc 5 1, 3) := by decide +kernel
theorem dX0_passHours_122 : decode cX0_passHours 122 = .ok (.goto (-101), 3) := by decide +kernel
theorem dX0_passHours_125 : decode cX0_passHours 125 = .ok (.aload_n 0, 1) := by decide +kernel
theorem dX0_passHours_126 : decode cX0_passHours 126 = .ok (.dup, 1) := by decide +kernel
theorem dX0_passHours_127 : decode cX0_passHours 127 = .ok (.getfield 65, 3) := by decide +kernel
theorem dX0_passHours_130 : decode cX0_passHours 130 = .ok (.iconst 1, 1) := by decide +kernel
theorem dX0_passHours_131 : decode cX0_passHours 131 = .ok (.iadd, 1) := by decide +kernel
theorem dX0_passHours_132 : decode cX0_passHours 132 = .ok (.putfield 65, 3) := by decide +kernel
theorem dX0_passHours_135 : decode cX0_passHours 135 = .ok (.iinc 3 1, 3) := by decide +kernel
theorem dX0_passHours_138 : decode cX0_passHours 138 = .ok (.goto (-134), 3) := by decide +kernel
theorem dX0_passHours_141 : decode cX0_passHours 141 = .ok (.iload_n 2, 1) := by decide +kernel
theorem dX0_passHours_142 : decode cX0_passHours 142 = .ok (.ireturn, 1) := by decide +kernel
theorem dX0_fade_0 : decode cX0_fade 0 = .ok (.aload_n 0, 1) := by decide +kernel
theorem dX0_fade_1 : decode cX0_fade 1 = .ok (.getfield 39, 3) := by decide +kernel
theorem dX0_fade_4 : decode cX0_fade 4 = .ok (.iload_n 1, 1) := by decide +kernel
theorem dX0_fade_5 : decode cX0_fade 5 = .ok (.dup2, 1) := by decide +kernel
theorem dX0_fade_6 : decode cX0_fade 6 = .ok (.iaload, 1) := by decide +kernel
theorem dX0_fade_7 : decode cX0_fade 7 = .ok (.iconst 1, 1) := by decide +kernel
theorem dX0_fade_8 : decode cX0_fade 8 = .ok (.isub, 1) := by decide +kernel
theorem dX0_fade_9 : decode cX0_fade 9 = .ok (.iastore, 1) := by decide +kernel
theorem dX0_fade_10 : decode cX0_fade 10 = .ok (.aload_n 0, 1) := by decide +kernel
theorem dX0_fade_11 : decode cX0_fade 11 = .ok (.getfield 39, 3) := by decide +kernel
theorem dX0_fade_14 : decode cX0_fade 14 = .ok (.iload_n 1, 1) := by decide +kernel
theorem dX0_fade_15 : decode cX0_fade 15 = .ok (.iaload, 1) := by decide +kernel
theorem dX0_fade_16 : decode cX0_fade 16 = .ok (.ifCond .ne 29, 3) := by decide +kernel
theorem dX0_fade_19 : decode cX0_fade 19 = .ok (.aload_n 0, 1) := by decide +kernel
theorem dX0_fade_20 : decode cX0_fade 20 = .ok (.getfield 33, 3) := by decide +kernel
theorem dX0_fade_23 : decode cX0_fade 23 = .ok (.iload_n 1, 1) := by decide +kernel
theorem dX0_fade_24 : decode cX0_fade 24 = .ok (.iconst (-1), 1) := by decide +kernel
theorem dX0_fade_25 : decode cX0_fade 25 = .ok (.iastore, 1) := by decide +kernel
theorem dX0_fade_26 : decode cX0_fade 26 = .ok (.aload_n 0, 1) := by decide +kernel
theorem dX0_fade_27 : decode cX0_fade 27 = .ok (.getfield 30, 3) := by decide +kernel
theorem dX0_fade_30 : decode cX0_fade 30 = .ok (.iload_n 2, 1) := by decide +kernel
theorem dX0_fade_31 : decode cX0_fade 31 = .ok (.bipush 99, 2) := by decide +kernel
theorem dX0_fade_33 : decode cX0_fade 33 = .ok (.aload_n 0, 1) := by decide +kernel
theorem dX0_fade_34 : decode cX0_fade 34 = .ok (.getfield 30, 3) := by decide +kernel
theorem dX0_fade_37 : decode cX0_fade 37 = .ok (.iload_n 2, 1) := by decide +kernel
theorem dX0_fade_38 : decode cX0_fade 38 = .ok (.iaload, 1) := by decide +kernel
theorem dX0_fade_39 : decode cX0_fade 39 = .ok (.iconst 1, 1) := by decide +kernel
theorem dX0_fade_40 : decode cX0_fade 40 = .ok (.iadd, 1) := by decide +kernel
theorem dX0_fade_41 : decode cX0_fade 41 = .ok (.invokestatic 127, 3) := by decide +kernel
theorem dX0_fade_44 : decode cX0_fade 44 = .ok (.iastore, 1) := by decide +kernel
theorem dX0_fade_45 : decode cX0_fade 45 = .ok (.return_, 1) := by decide +kernel
set_option maxRecDepth 20000 in
theorem ggX0_named_J6_bitCount_0f7a4 : GoodIn wsX0_named wsJ6_bitCount_0f7a4 := goodIn_r _ [9, 10, 11, 12] rfl (by decide +kernel)
set_option maxRecDepth 20000 in
theorem gX0_named_J6_bitCount_0f7a4 : GoodIn wsX0_named (va_wsS RX0 98 yJ6_bitCount_0f7a4 wsJ6_bitCount_0f7a4) := goodIn_app (goodIn_of _ (by decide +kernel)) ggX0_named_J6_bitCount_0f7a4
set_option maxRecDepth 20000 in
theorem ggX0_named_X0_lying : GoodIn wsX0_named wsX0_lying := goodIn_r _ [17, 18, 19, 20, 21, 22, 23, 24, 25, 26, 27, 28, 29, 30, 31, 32, 33] rfl (by decide +kernel)
set_option maxRecDepth 20000 in
theorem gX0_named_X0_lying : GoodIn wsX0_named (wsV RX0 113 RX0 yX0_lying wsX0_lying) := goodIn_app (goodIn_of _ (by decide +kernel)) ggX0_named_X0_lying
theorem dX0_named_0 : decode cX0_named 0 = .ok (.iload_n 1, 1) := by decide +kernel
theorem dX0_named_1 : decode cX0_named 1 = .ok (.tableswitch 70 (-5) (-1) #[62, 57, 52, 42, 35], 35) := by decide +kernel
theorem dX0_named_36 : decode cX0_named 36 = .ok (.aload_n 0, 1) := by decide +kernel
theorem dX0_named_37 : decode cX0_named 37 = .ok (.getfield 27, 3) := by decide +kernel
theorem dX0_named_40 : decode cX0_named 40 = .ok (.iload_n 2, 1) := by decide +kernel
theorem dX0_named_41 : decode cX0_named 41 = .ok (.iaload, 1) := by decide +kernel
theorem dX0_named_42 : decode cX0_named 42 = .ok (.ireturn, 1) := by decide +kernel
theorem dX0_named_43 : decode cX0_named 43 = .ok (.aload_n 0, 1) := by decide +kernel
theorem dX0_named_44 : decode cX0_named 44 = .ok (.getfield 24, 3) := by decide +kernel
theorem dX0_named_47 : decode cX0_named 47 = .ok (.iload_n 2, 1) := by decide +kernel
theorem dX0_named_48 : decode cX0_named 48 = .ok (.iaload, 1) := by decide +kernel
theorem dX0_named_49 : decode cX0_named 49 = .ok (.invokestatic 98, 3) := by decide +kernel
theorem dX0_named_52 : decode cX0_named 52 = .ok (.ireturn, 1) := by decide +kernel
theorem dX0_named_53 : decode cX0_named 53 = .ok (.aload_n 0, 1) := by decide +kernel
theorem dX0_named_54 : decode cX0_named 54 = .ok (.getfield 65, 3) := by decide +kernel
theorem dX0_named_57 : decode cX0_named 57 = .ok (.ireturn, 1) := by decide +kernel
theorem dX0_named_58 : decode cX0_named 58 = .ok (.aload_n 0, 1) := by decide +kernel
theorem dX0_named_59 : decode cX0_named 59 = .ok (.invokevirtual 113, 3) := by decide +kernel
theorem dX0_named_62 : decode cX0_named 62 = .ok (.ireturn, 1) := by decide +kernel
theorem dX0_named_63 : decode cX0_named 63 = .ok (.aload_n 0, 1) := by decide +kernel
theorem dX0_named_64 : decode cX0_named 64 = .ok (.getfield 61, 3) := by decide +kernel
theorem dX0_named_67 : decode cX0_named 67 = .ok (.invokestatic 98, 3) := by decide +kernel
theorem dX0_named_70 : decode cX0_named 70 = .ok (.ireturn, 1) := by decide +kernel
theorem dX0_named_71 : decode cX0_named 71 = .ok (.aload_n 0, 1) := by decide +kernel
theorem dX0_named_72 : decode cX0_named 72 = .ok (.getfield 21, 3) := by decide +kernel
theorem dX0_named_75 : decode cX0_named 75 = .ok (.iload_n 2, 1) := by decide +kernel
theorem dX0_named_76 : decode cX0_named 76 = .ok (.iaload, 1) := by decide +kernel
theorem dX0_named_77 : decode cX0_named 77 = .ok (.ireturn, 1) := by decide +kernel
set_option maxRecDepth 20000 in
theorem ggX1_looksOf_X1_ladyLooks : GoodIn wsX1_looksOf wsX1_ladyLooks := goodIn_r _ [4] rfl (by decide +kernel)
set_option maxRecDepth 20000 in
theorem gX1_looksOf_X1_ladyLooks : GoodIn wsX1_looksOf (va_wsS RX1 9 yX1_ladyLooks wsX1_ladyLooks) := goodIn_app (goodIn_of _ (by decide +kernel)) ggX1_looksOf_X1_ladyLooks
theorem dX1_looksOf_0 : decode cX1_looksOf 0 = .ok (.iload_n 0, 1) := by decide +kernel
theorem dX1_looksOf_1 : decode cX1_looksOf 1 = .ok (.tableswitch 69 1 5 #[35, 61, 42, 61, 67], 35) := by decide +kernel
theorem dX1_looksOf_36 : decode cX1_looksOf 36 = .ok (.iload_n 1, 1) := by decide +kernel
theorem dX1_looksOf_37 : decode cX1_looksOf 37 = .ok (.iload_n 2, 1) := by decide +kernel
theorem dX1_looksOf_38 : decode cX1_looksOf 38 = .ok (.iload_n 3, 1) := by decide +kernel
theorem dX1_looksOf_39 : decode cX1_looksOf 39 = .ok (.invokestatic 9, 3) := by decide +kernel
theorem dX1_looksOf_42 : decode cX1_looksOf 42 = .ok (.ireturn, 1) := by decide +kernel
theorem dX1_looksOf_43 : decode cX1_looksOf 43 = .ok (.iload_n 1, 1) := by decide +kernel
theorem dX1_looksOf_44 : decode cX1_looksOf 44 = .ok (.iload_n 2, 1) := by decide +kernel
theorem dX1_looksOf_45 : decode cX1_looksOf 45 = .ok (.iload_n 3, 1) := by decide +kernel
theorem dX1_looksOf_46 : decode cX1_looksOf 46 = .ok (.invokestatic 9, 3) := by decide +kernel
theorem dX1_looksOf_49 : decode cX1_looksOf 49 = .ok (.iload_n 3, 1) := by decide +kernel
theorem dX1_looksOf_50 : decode cX1_looksOf 50 = .ok (.iconst 2, 1) := by decide +kernel
theorem dX1_looksOf_51 : decode cX1_looksOf 51 = .ok (.irem, 1) := by decide +kernel
theorem dX1_looksOf_52 : decode cX1_looksOf 52 = .ok (.ifCond .ne 7, 3) := by decide +kernel
theorem dX1_looksOf_55 : decode cX1_looksOf 55 = .ok (.iconst 2, 1) := by decide +kernel
theorem dX1_looksOf_56 : decode cX1_looksOf 56 = .ok (.goto 4, 3) := by decide +kernel
theorem dX1_looksOf_59 : decode cX1_looksOf 59 = .ok (.iconst 1, 1) := by decide +kernel
theorem dX1_looksOf_60 : decode cX1_looksOf 60 = .ok (.idiv, 1) := by decide +kernel
theorem dX1_looksOf_61 : decode cX1_looksOf 61 = .ok (.ireturn, 1) := by decide +kernel
theorem dX1_looksOf_62 : decode cX1_looksOf 62 = .ok (.iload_n 1, 1) := by decide +kernel
theorem dX1_looksOf_63 : decode cX1_looksOf 63 = .ok (.iconst 5, 1) := by decide +kernel
theorem dX1_looksOf_64 : decode cX1_looksOf 64 = .ok (.iload_n 2, 1) := by decide +kernel
theorem dX1_looksOf_65 : decode cX1_looksOf 65 = .ok (.imul, 1) := by decide +kernel
theorem dX1_looksOf_66 : decode cX1_looksOf 66 = .ok (.isub, 1) := by decide +kernel
theorem dX1_looksOf_67 : decode cX1_looksOf 67 = .ok (.ireturn, 1) := by decide +kernel
theorem dX1_looksOf_68 : decode cX1_looksOf 68 = .ok (.iconst 0, 1) := by decide +kernel
theorem dX1_looksOf_69 : decode cX1_looksOf 69 = .ok (.ireturn, 1) := by decide +kernel
theorem dX1_looksOf_70 : decode cX1_looksOf 70 = .ok (.iload_n 1, 1) := by decide +kernel
theorem dX1_looksOf_71 : decode cX1_looksOf 71 = .ok (.ireturn, 1) := by decide +kernel
theorem dX1_ladyLooks_0 : decode cX1_ladyLooks 0 = .ok (.iload_n 2, 1) := by decide +kernel
theorem dX1_ladyLooks_1 : decode cX1_ladyLooks 1 = .ok (.iload_n 1, 1) := by decide +kernel
theorem dX1_ladyLooks_2 : decode cX1_ladyLooks 2 = .ok (.bipush 6, 2) := by decide +kernel
theorem dX1_ladyLooks_4 : decode cX1_ladyLooks 4 = .ok (.irem, 1) := by decide +kernel
theorem dX1_ladyLooks_5 : decode cX1_ladyLooks 5 = .ok (.if_icmp .ne 8, 3) := by decide +kernel
theorem dX1_ladyLooks_8 : decode cX1_ladyLooks 8 = .ok (.bipush 99, 2) := by decide +kernel
theorem dX1_ladyLooks_10 : decode cX1_ladyLooks 10 = .ok (.goto 4, 3) := by decide +kernel
theorem dX1_ladyLooks_13 : decode cX1_ladyLooks 13 = .ok (.iload_n 0, 1) := by decide +kernel
theorem dX1_ladyLooks_14 : decode cX1_ladyLooks 14 = .ok (.ireturn, 1) := by decide +kernel
theorem dX1_waitsOf_0 : decode cX1_waitsOf 0 = .ok (.iload_n 0, 1) := by decide +kernel
theorem dX1_waitsOf_1 : decode cX1_waitsOf 1 = .ok (.tableswitch 64 1 5 #[35, 64, 39, 56, 60], 35) := by decide +kernel
theorem dX1_waitsOf_36 : decode cX1_waitsOf 36 = .ok (.iload_n 1, 1) := by decide +kernel
theorem dX1_waitsOf_37 : decode cX1_waitsOf 37 = .ok (.iconst 2, 1) := by decide +kernel
theorem dX1_waitsOf_38 : decode cX1_waitsOf 38 = .ok (.idiv, 1) := by decide +kernel
theorem dX1_waitsOf_39 : decode cX1_waitsOf 39 = .ok (.ireturn, 1) := by decide +kernel
theorem dX1_waitsOf_40 : decode cX1_waitsOf 40 = .ok (.iload_n 3, 1) := by decide +kernel
theorem dX1_waitsOf_41 : decode cX1_waitsOf 41 = .ok (.iconst 5, 1) := by decide +kernel
theorem dX1_waitsOf_42 : decode cX1_waitsOf 42 = .ok (.irem, 1) := by decide +kernel
theorem dX1_waitsOf_43 : decode cX1_waitsOf 43 = .ok (.ifCond .ne 8, 3) := by decide +kernel
theorem dX1_waitsOf_46 : decode cX1_waitsOf 46 = .ok (.bipush 99, 2) := by decide +kernel
theorem dX1_waitsOf_48 : decode cX1_waitsOf 48 = .ok (.goto 8, 3) := by decide +kernel
theorem dX1_waitsOf_51 : decode cX1_waitsOf 51 = .ok (.iload_n 1, 1) := by decide +kernel
theorem dX1_waitsOf_52 : decode cX1_waitsOf 52 = .ok (.iconst 2, 1) := by decide +kernel
theorem dX1_waitsOf_53 : decode cX1_waitsOf 53 = .ok (.idiv, 1) := by decide +kernel
theorem dX1_waitsOf_54 : decode cX1_waitsOf 54 = .ok (.iload_n 2, 1) := by decide +kernel
theorem dX1_waitsOf_55 : decode cX1_waitsOf 55 = .ok (.iadd, 1) := by decide +kernel
theorem dX1_waitsOf_56 : decode cX1_waitsOf 56 = .ok (.ireturn, 1) := by decide +kernel
theorem dX1_waitsOf_57 : decode cX1_waitsOf 57 = .ok (.iload_n 1, 1) := by decide +kernel
theorem dX1_waitsOf_58 : decode cX1_waitsOf 58 = .ok (.iconst 2, 1) := by decide +kernel
theorem dX1_waitsOf_59 : decode cX1_waitsOf 59 = .ok (.imul, 1) := by decide +kernel
theorem dX1_waitsOf_60 : decode cX1_waitsOf 60 = .ok (.ireturn, 1) := by decide +kernel
theorem dX1_waitsOf_61 : decode cX1_waitsOf 61 = .ok (.iconst 1, 1) := by decide +kernel
theorem dX1_waitsOf_62 : decode cX1_waitsOf 62 = .ok (.iload_n 2, 1) := by decide +kernel
theorem dX1_waitsOf_63 : decode cX1_waitsOf 63 = .ok (.iadd, 1) := by decide +kernel
theorem dX1_waitsOf_64 : decode cX1_waitsOf 64 = .ok (.ireturn, 1) := by decide +kernel
theorem dX1_waitsOf_65 : decode cX1_waitsOf 65 = .ok (.iload_n 1, 1) := by decide +kernel
theorem dX1_waitsOf_66 : decode cX1_waitsOf 66 = .ok (.ireturn, 1) := by decide +kernel
set_option maxRecDepth 20000 in
theorem ggX1_dropsOf_J9_floorMod_7cf53 : GoodIn wsX1_dropsOf wsJ9_floorMod_7cf53 := goodIn_r _ [8] rfl (by decide +kernel)
set_option maxRecDepth 20000 in
theorem gX1_dropsOf_J9_floorMod_7cf53 : GoodIn wsX1_dropsOf (va_wsS RX1 15 yJ9_floorMod_7cf53 wsJ9_floorMod_7cf53) := goodIn_app (goodIn_of _ (by decide +kernel)) ggX1_dropsOf_J9_floorMod_7cf53
theorem dX1_dropsOf_0 : decode cX1_dropsOf 0 = .ok (.iload_n 3, 1) := by decide +kernel
theorem dX1_dropsOf_1 : decode cX1_dropsOf 1 = .ok (.iconst 1, 1) := by decide +kernel
theorem dX1_dropsOf_2 : decode cX1_dropsOf 2 = .ok (.if_icmp .ge 5, 3) := by decide +kernel
theorem dX1_dropsOf_5 : decode cX1_dropsOf 5 = .ok (.iconst 0, 1) := by decide +kernel
theorem dX1_dropsOf_6 : decode cX1_dropsOf 6 = .ok (.ireturn, 1) := by decide +kernel
theorem dX1_dropsOf_7 : decode cX1_dropsOf 7 = .ok (.iload_n 1, 1) := by decide +kernel
theorem dX1_dropsOf_8 : decode cX1_dropsOf 8 = .ok (.iload_n 3, 1) := by decide +kernel
theorem dX1_dropsOf_9 : decode cX1_dropsOf 9 = .ok (.invokestatic 15, 3) := by decide +kernel
theorem dX1_dropsOf_12 : decode cX1_dropsOf 12 = .ok (.istore 4, 2) := by decide +kernel
theorem dX1_dropsOf_14 : decode cX1_dropsOf 14 = .ok (.iload_n 0, 1) := by decide +kernel
theorem dX1_dropsOf_15 : decode cX1_dropsOf 15 = .ok (.lookupswitch 45 #[(2, 25), (4, 32)], 25) := by decide +kernel
theorem dX1_dropsOf_40 : decode cX1_dropsOf 40 = .ok (.iload_n 3, 1) := by decide +kernel
theorem dX1_dropsOf_41 : decode cX1_dropsOf 41 = .ok (.iconst 1, 1) := by decide +kernel
theorem dX1_dropsOf_42 : decode cX1_dropsOf 42 = .ok (.isub, 1) := by decide +kernel
theorem dX1_dropsOf_43 : decode cX1_dropsOf 43 = .ok (.iload 4, 2) := by decide +kernel
theorem dX1_dropsOf_45 : decode cX1_dropsOf 45 = .ok (.isub, 1) := by decide +kernel
theorem dX1_dropsOf_46 : decode cX1_dropsOf 46 = .ok (.ireturn, 1) := by decide +kernel
theorem dX1_dropsOf_47 : decode cX1_dropsOf 47 = .ok (.iload_n 3, 1) := by decide +kernel
theorem dX1_dropsOf_48 : decode cX1_dropsOf 48 = .ok (.iconst 1, 1) := by decide +kernel
theorem dX1_dropsOf_49 : decode cX1_dropsOf 49 = .ok (.isub, 1) := by decide +kernel
theorem dX1_dropsOf_50 : decode cX1_dropsOf 50 = .ok (.iload 4, 2) := by decide +kernel
theorem dX1_dropsOf_52 : decode cX1_dropsOf 52 = .ok (.isub, 1) := by decide +kernel
theorem dX1_dropsOf_53 : decode cX1_dropsOf 53 = .ok (.iload_n 2, 1) := by decide +kernel
theorem dX1_dropsOf_54 : decode cX1_dropsOf 54 = .ok (.iload_n 3, 1) := by decide +kernel
theorem dX1_dropsOf_55 : decode cX1_dropsOf 55 = .ok (.irem, 1) := by decide +kernel
theorem dX1_dropsOf_56 : decode cX1_dropsOf 56 = .ok (.invokestatic 21, 3) := by decide +kernel
theorem dX1_dropsOf_59 : decode cX1_dropsOf 59 = .ok (.ireturn, 1) := by decide +kernel
theorem dX1_dropsOf_60 : decode cX1_dropsOf 60 = .ok (.iload 4, 2) := by decide +kernel
theorem dX1_dropsOf_62 : decode cX1_dropsOf 62 = .ok (.ireturn, 1) := by decide +kernel
theorem dX1_isOne_0 : decode cX1_isOne 0 = .ok (.iload_n 0, 1) := by decide +kernel
theorem dX1_isOne_1 : decode cX1_isOne 1 = .ok (.iconst 3, 1) := by decide +kernel
theorem dX1_isOne_2 : decode cX1_isOne 2 = .ok (.if_icmp .ne 7, 3) := by decide +kernel
theorem dX1_isOne_5 : decode cX1_isOne 5 = .ok (.iconst 1, 1) := by decide +kernel
theorem dX1_isOne_6 : decode cX1_isOne 6 = .ok (.goto 13, 3) := by decide +kernel
theorem dX1_isOne_9 : decode cX1_isOne 9 = .ok (.iload_n 0, 1) := by decide +kernel
theorem dX1_isOne_10 : decode cX1_isOne 10 = .ok (.iconst 4, 1) := by decide +kernel
theorem dX1_isOne_11 : decode cX1_isOne 11 = .ok (.if_icmp .ne 7, 3) := by decide +kernel
theorem dX1_isOne_14 : decode cX1_isOne 14 = .ok (.iconst 2, 1) := by decide +kernel
theorem dX1_isOne_15 : decode cX1_isOne 15 = .ok (.goto 4, 3) := by decide +kernel
theorem dX1_isOne_18 : decode cX1_isOne 18 = .ok (.iconst 0, 1) := by decide +kernel
theorem dX1_isOne_19 : decode cX1_isOne 19 = .ok (.istore_n 2, 1) := by decide +kernel
theorem dX1_isOne_20 : decode cX1_isOne 20 = .ok (.iload_n 0, 1) := by decide +kernel
theorem dX1_isOne_21 : decode cX1_isOne 21 = .ok (.iload_n 1, 1) := by decide +kernel
theorem dX1_isOne_22 : decode cX1_isOne 22 = .ok (.if_icmp .eq 12, 3) := by decide +kernel
theorem dX1_isOne_25 : decode cX1_isOne 25 = .ok (.iload_n 2, 1) := by decide +kernel
theorem dX1_isOne_26 : decode cX1_isOne 26 = .ok (.iload_n 1, 1) := by decide +kernel
theorem dX1_isOne_27 : decode cX1_isOne 27 = .ok (.if_icmp .eq 7, 3) := by decide +kernel
theorem dX1_isOne_30 : decode cX1_isOne 30 = .ok (.iload_n 1, 1) := by decide +kernel
theorem dX1_isOne_31 : decode cX1_isOne 31 = .ok (.ifCond .ne 7, 3) := by decide +kernel
theorem dX1_isOne_34 : decode cX1_isOne 34 = .ok (.iconst 1, 1) := by decide +kernel
theorem dX1_isOne_35 : decode cX1_isOne 35 = .ok (.goto 4, 3) := by decide +kernel
theorem dX1_isOne_38 : decode cX1_isOne 38 = .ok (.iconst 0, 1) := by decide +kernel
theorem dX1_isOne_39 : decode cX1_isOne 39 = .ok (.ireturn, 1) := by decide +kernel
theorem dX2_init_0 : decode cX2_init 0 = .ok (.aload_n 0, 1) := by decide +kernel
theorem dX2_init_1 : decode cX2_init 1 = .ok (.invokespecial 3, 3) := by decide +kernel
theorem dX2_init_4 : decode cX2_init 4 = .ok (.aload_n 0, 1) := by decide +kernel
theorem dX2_init_5 : decode cX2_init 5 = .ok (.iload_n 1, 1) := by decide +kernel
theorem dX2_init_6 : decode cX2_init 6 = .ok (.putfield 9, 3) := by decide +kernel
theorem dX2_init_9 : decode cX2_init 9 = .ok (.aload_n 0, 1) := by decide +kernel
theorem dX2_init_10 : decode cX2_init 10 = .ok (.aload_n 2, 1) := by decide +kernel
theorem dX2_init_11 : decode cX2_init 11 = .ok (.putfield 15, 3) := by decide +kernel
theorem dX2_init_14 : decode cX2_init 14 = .ok (.aload_n 0, 1) := by decide +kernel
theorem dX2_init_15 : decode cX2_init 15 = .ok (.iload_n 3, 1) := by decide +kernel
theorem dX2_init_16 : decode cX2_init 16 = .ok (.putfield 19, 3) := by decide +kernel
theorem dX2_init_19 : decode cX2_init 19 = .ok (.aload_n 0, 1) := by decide +kernel
theorem dX2_init_20 : decode cX2_init 20 = .ok (.iload 4, 2) := by decide +kernel
theorem dX2_init_22 : decode cX2_init 22 = .ok (.putfield 22, 3) := by decide +kernel
theorem dX2_init_25 : decode cX2_init 25 = .ok (.return_, 1) := by decide +kernel
set_option maxRecDepth 20000 in
theorem ggX2_says_X0_named : GoodIn wsX2_says wsX0_named := goodIn_r _ [8, 9, 10, 11, 12, 13, 14, 15, 16, 17, 18, 19, 20, 21, 22, 23, 7, 24, 25, 43, 44, 45, 46, 47, 48, 49, 50, 51, 52, 53, 54, 55, 56, 57] rfl (by decide +kernel)
set_option maxRecDepth 20000 in
theorem gX2_says_X0_named : GoodIn wsX2_says (wsV RX2 30 RX0 yX0_named wsX0_named) := goodIn_app (goodIn_of _ (by decide +kernel)) ggX2_says_X0_named
set_option maxRecDepth 20000 in
theorem ggX2_says_X2_truth : GoodIn wsX2_says wsX2_truth := goodIn_r _ [29] rfl (by decide +kernel)
set_option maxRecDepth 20000 in
theorem gX2_says_X2_truth : GoodIn wsX2_says (va_wsS RX2 34 yX2_truth wsX2_truth) := goodIn_app (goodIn_of _ (by decide +kernel)) ggX2_says_X2_truth
set_option maxRecDepth 20000 in
theorem ggX2_says_X2_joined : GoodIn wsX2_says wsX2_joined := goodIn_r _ [32, 26, 27, 28, 29] rfl (by decide +kernel)
set_option maxRecDepth 20000 in
theorem gX2_says_X2_joined : GoodIn wsX2_says (va_wsS RX2 38 yX2_joined wsX2_joined) := goodIn_app (goodIn_of _ (by decide +kernel)) ggX2_says_X2_joined
set_option maxRecDepth 20000 in
theorem ggX2_says_X5_bounded : GoodIn wsX2_says wsX5_bounded := goodIn_r _ [35, 36, 37, 38, 39, 40, 41, 42] rfl (by decide +kernel)
set_option maxRecDepth 20000 in
theorem gX2_says_X5_bounded_n42 : GoodIn wsX2_says (wsX5_bounded) := ggX2_says_X5_bounded
theorem dX2_says_0 : decode cX2_says 0 = .ok (.aload_n 2, 1) := by decide +kernel
theorem dX2_says_1 : decode cX2_says 1 = .ok (.getfield 25, 3) := by decide +kernel
theorem dX2_says_4 : decode cX2_says 4 = .ok (.astore 4, 2) := by decide +kernel
theorem dX2_says_6 : decode cX2_says 6 = .ok (.iload_n 1, 1) := by decide +kernel
theorem dX2_says_7 : decode cX2_says 7 = .ok (.ifCond .ne 7, 3) := by decide +kernel
theorem dX2_says_10 : decode cX2_says 10 = .ok (.iconst 0, 1) := by decide +kernel
theorem dX2_says_11 : decode cX2_says 11 = .ok (.goto 19, 3) := by decide +kernel
theorem dX2_says_14 : decode cX2_says 14 = .ok (.iload_n 1, 1) := by decide +kernel
theorem dX2_says_15 : decode cX2_says 15 = .ok (.iconst 1, 1) := by decide +kernel
theorem dX2_says_16 : decode cX2_says 16 = .ok (.if_icmp .ne 10, 3) := by decide +kernel
theorem dX2_says_19 : decode cX2_says 19 = .ok (.aload_n 0, 1) := by decide +kernel
theorem dX2_says_20 : decode cX2_says 20 = .ok (.getfield 19, 3) := by decide +kernel
theorem dX2_says_23 : decode cX2_says 23 = .ok (.goto 7, 3) := by decide +kernel
theorem dX2_says_26 : decode cX2_says 26 = .ok (.aload_n 0, 1) := by decide +kernel
theorem dX2_says_27 : decode cX2_says 27 = .ok (.getfield 22, 3) := by decide +kernel
theorem dX2_says_30 : decode cX2_says 30 = .ok (.istore 5, 2) := by decide +kernel
theorem dX2_says_32 : decode cX2_says 32 = .ok (.iload_n 1, 1) := by decide +kernel
theorem dX2_says_33 : decode cX2_says 33 = .ok (.ifCond .ne 10, 3) := by decide +kernel
theorem dX2_says_36 : decode cX2_says 36 = .ok (.aload_n 0, 1) := by decide +kernel
theorem dX2_says_37 : decode cX2_says 37 = .ok (.getfield 19, 3) := by decide +kernel
theorem dX2_says_40 : decode cX2_says 40 = .ok (.goto 20, 3) := by decide +kernel
theorem dX2_says_43 : decode cX2_says 43 = .ok (.iload_n 1, 1) := by decide +kernel
theorem dX2_says_44 : decode cX2_says 44 = .ok (.iconst 1, 1) := by decide +kernel
theorem dX2_says_45 : decode cX2_says 45 = .ok (.if_icmp .ne 10, 3) := by decide +kernel
theorem dX2_says_48 : decode cX2_says 48 = .ok (.aload_n 0, 1) := by decide +kernel
theorem dX2_says_49 : decode cX2_says 49 = .ok (.getfield 22, 3) := by decide +kernel
theorem dX2_says_52 : decode cX2_says 52 = .ok (.goto 8, 3) := by decide +kernel
theorem dX2_says_55 : decode cX2_says 55 = .ok (.aload_n 0, 1) := by decide +kernel
theorem dX2_says_56 : decode cX2_says 56 = .ok (.getfield 15, 3) := by decide +kernel
theorem dX2_says_59 : decode cX2_says 59 = .ok (.arraylength, 1) := by decide +kernel
theorem dX2_says_60 : decode cX2_says 60 = .ok (.istore 6, 2) := by decide +kernel
theorem dX2_says_62 : decode cX2_says 62 = .ok (.iconst 0, 1) := by decide +kernel
theorem dX2_says_63 : decode cX2_says 63 = .ok (.istore 7, 2) := by decide +kernel
theorem dX2_says_65 : decode cX2_says 65 = .ok (.iload 5, 2) := by decide +kernel
theorem dX2_says_67 : decode cX2_says 67 = .ok (.istore 8, 2) := by decide +kernel
theorem dX2_says_69 : decode cX2_says 69 = .ok (.iload 8, 2) := by decide +kernel
theorem dX2_says_71 : decode cX2_says 71 = .ok (.iload 6, 2) := by decide +kernel
theorem dX2_says_73 : decode cX2_says 73 = .ok (.if_icmp .ge 155, 3) := by decide +kernel
theorem dX2_says_76 : decode cX2_says 76 = .ok (.iload 7, 2) := by decide +kernel
theorem dX2_says_78 : decode cX2_says 78 = .ok (.aload 4, 2) := by decide +kernel
theorem dX2_says_80 : decode cX2_says 80 = .ok (.arraylength, 1) := by decide +kernel
theorem dX2_says_81 : decode cX2_says 81 = .ok (.if_icmp .ge 147, 3) := by decide +kernel
theorem dX2_says_84 : decode cX2_says 84 = .ok (.aload_n 0, 1) := by decide +kernel
theorem dX2_says_85 : decode cX2_says 85 = .ok (.getfield 15, 3) := by decide +kernel
theorem dX2_says_88 : decode cX2_says 88 = .ok (.iload 8, 2) := by decide +kernel
theorem dX2_says_90 : decode cX2_says 90 = .ok (.iaload, 1) := by decide +kernel
theorem dX2_says_91 : decode cX2_says 91 = .ok (.istore 9, 2) := by decide +kernel
theorem dX2_says_93 : decode cX2_says 93 = .ok (.iload 9, 2) := by decide +kernel
theorem dX2_says_95 : decode cX2_says 95 = .ok (.bipush (-6), 2) := by decide +kernel
theorem dX2_says_97 : decode cX2_says 97 = .ok (.if_icmp .lt 31, 3) := by decide +kernel
theorem dX2_says_100 : decode cX2_says 100 = .ok (.aload 4, 2) := by decide +kernel
theorem dX2_says_102 : decode cX2_says 102 = .ok (.iload 7, 2) := by decide +kernel
theorem dX2_says_104 : decode cX2_says 104 = .ok (.iload 9, 2) := by decide +kernel
theorem dX2_says_106 : decode cX2_says 106 = .ok (.ifCond .lt 8, 3) := by decide +kernel
theorem dX2_says_109 : decode cX2_says 109 = .ok (.iload 9, 2) := by decide +kernel
theorem dX2_says_111 : decode cX2_says 111 = .ok (.goto 10, 3) := by decide +kernel
theorem dX2_says_114 : decode cX2_says 114 = .ok (.aload_n 2, 1) := by decide +kernel
theorem dX2_says_115 : decode cX2_says 115 = .ok (.iload 9, 2) := by decide +kernel
theorem dX2_says_117 : decode cX2_says 117 = .ok (.iload_n 3, 1) := by decide +kernel
theorem dX2_says_118 : decode cX2_says 118 = .ok (.invokevirtual 30, 3) := by decide +kernel
theorem dX2_says_121 : decode cX2_says 121 = .ok (.iastore, 1) := by decide +kernel
theorem dX2_says_122 : decode cX2_says 122 = .ok (.iinc 7 1, 3) := by decide +kernel
theorem dX2_says_125 : decode cX2_says 125 = .ok (.goto 97, 3) := by decide +kernel
theorem dX2_says_128 : decode cX2_says 128 = .ok (.iload 9, 2) := by decide +kernel
theorem dX2_says_130 : decode cX2_says 130 = .ok (.bipush (-8), 2) := by decide +kernel
theorem dX2_says_132 : decode cX2_says 132 = .ok (.if_icmp .lt 55, 3) := by decide +kernel
theorem dX2_says_135 : decode cX2_says 135 = .ok (.iload 7, 2) := by decide +kernel
theorem dX2_says_137 : decode cX2_says 137 = .ok (.iconst 1, 1) := by decide +kernel
theorem dX2_says_138 : decode cX2_says 138 = .ok (.if_icmp .lt 49, 3) := by decide +kernel
theorem dX2_says_141 : decode cX2_says 141 = .ok (.aload 4, 2) := by decide +kernel
theorem dX2_says_143 : decode cX2_says 143 = .ok (.iload 7, 2) := by decide +kernel
theorem dX2_says_145 : decode cX2_says 145 = .ok (.iconst 1, 1) := by decide +kernel
theorem dX2_says_146 : decode cX2_says 146 = .ok (.isub, 1) := by decide +kernel

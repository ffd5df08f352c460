theorem dX2_init_0 : decode cX2_init 0 = .ok (.aload_n 0, 1) := by decide +kernel
theorem dX2_init_1 : decode cX2_init 1 = .ok (.invokespecial 1, 3) := by decide +kernel
theorem dX2_init_4 : decode cX2_init 4 = .ok (.aload_n 0, 1) := by decide +kernel
theorem dX2_init_5 : decode cX2_init 5 = .ok (.bipush 60, 2) := by decide +kernel
theorem dX2_init_7 : decode cX2_init 7 = .ok (.putfield 7, 3) := by decide +kernel
theorem dX2_init_10 : decode cX2_init 10 = .ok (.aload_n 0, 1) := by decide +kernel
theorem dX2_init_11 : decode cX2_init 11 = .ok (.bipush 64, 2) := by decide +kernel
theorem dX2_init_13 : decode cX2_init 13 = .ok (.newarray .int, 2) := by decide +kernel
theorem dX2_init_15 : decode cX2_init 15 = .ok (.putfield 13, 3) := by decide +kernel
theorem dX2_init_18 : decode cX2_init 18 = .ok (.aload_n 0, 1) := by decide +kernel
theorem dX2_init_19 : decode cX2_init 19 = .ok (.bipush 64, 2) := by decide +kernel
theorem dX2_init_21 : decode cX2_init 21 = .ok (.newarray .int, 2) := by decide +kernel
theorem dX2_init_23 : decode cX2_init 23 = .ok (.putfield 17, 3) := by decide +kernel
theorem dX2_init_26 : decode cX2_init 26 = .ok (.aload_n 0, 1) := by decide +kernel
theorem dX2_init_27 : decode cX2_init 27 = .ok (.bipush 64, 2) := by decide +kernel
theorem dX2_init_29 : decode cX2_init 29 = .ok (.newarray .int, 2) := by decide +kernel
theorem dX2_init_31 : decode cX2_init 31 = .ok (.putfield 20, 3) := by decide +kernel
theorem dX2_init_34 : decode cX2_init 34 = .ok (.aload_n 0, 1) := by decide +kernel
theorem dX2_init_35 : decode cX2_init 35 = .ok (.bipush 64, 2) := by decide +kernel
theorem dX2_init_37 : decode cX2_init 37 = .ok (.newarray .int, 2) := by decide +kernel
theorem dX2_init_39 : decode cX2_init 39 = .ok (.putfield 23, 3) := by decide +kernel
theorem dX2_init_42 : decode cX2_init 42 = .ok (.aload_n 0, 1) := by decide +kernel
theorem dX2_init_43 : decode cX2_init 43 = .ok (.bipush 64, 2) := by decide +kernel
theorem dX2_init_45 : decode cX2_init 45 = .ok (.newarray .int, 2) := by decide +kernel
theorem dX2_init_47 : decode cX2_init 47 = .ok (.putfield 26, 3) := by decide +kernel
theorem dX2_init_50 : decode cX2_init 50 = .ok (.aload_n 0, 1) := by decide +kernel
theorem dX2_init_51 : decode cX2_init 51 = .ok (.bipush 64, 2) := by decide +kernel
theorem dX2_init_53 : decode cX2_init 53 = .ok (.newarray .int, 2) := by decide +kernel
theorem dX2_init_55 : decode cX2_init 55 = .ok (.putfield 29, 3) := by decide +kernel
theorem dX2_init_58 : decode cX2_init 58 = .ok (.aload_n 0, 1) := by decide +kernel
theorem dX2_init_59 : decode cX2_init 59 = .ok (.bipush 64, 2) := by decide +kernel
theorem dX2_init_61 : decode cX2_init 61 = .ok (.newarray .int, 2) := by decide +kernel
theorem dX2_init_63 : decode cX2_init 63 = .ok (.putfield 32, 3) := by decide +kernel
theorem dX2_init_66 : decode cX2_init 66 = .ok (.aload_n 0, 1) := by decide +kernel
theorem dX2_init_67 : decode cX2_init 67 = .ok (.bipush 64, 2) := by decide +kernel
theorem dX2_init_69 : decode cX2_init 69 = .ok (.newarray .int, 2) := by decide +kernel
theorem dX2_init_71 : decode cX2_init 71 = .ok (.putfield 35, 3) := by decide +kernel
theorem dX2_init_74 : decode cX2_init 74 = .ok (.aload_n 0, 1) := by decide +kernel
theorem dX2_init_75 : decode cX2_init 75 = .ok (.bipush 64, 2) := by decide +kernel
theorem dX2_init_77 : decode cX2_init 77 = .ok (.newarray .int, 2) := by decide +kernel
theorem dX2_init_79 : decode cX2_init 79 = .ok (.putfield 38, 3) := by decide +kernel
theorem dX2_init_82 : decode cX2_init 82 = .ok (.aload_n 0, 1) := by decide +kernel
theorem dX2_init_83 : decode cX2_init 83 = .ok (.bipush 64, 2) := by decide +kernel
theorem dX2_init_85 : decode cX2_init 85 = .ok (.newarray .int, 2) := by decide +kernel
theorem dX2_init_87 : decode cX2_init 87 = .ok (.putfield 41, 3) := by decide +kernel
theorem dX2_init_90 : decode cX2_init 90 = .ok (.iconst 0, 1) := by decide +kernel
theorem dX2_init_91 : decode cX2_init 91 = .ok (.istore_n 1, 1) := by decide +kernel
theorem dX2_init_92 : decode cX2_init 92 = .ok (.iload_n 1, 1) := by decide +kernel
theorem dX2_init_93 : decode cX2_init 93 = .ok (.bipush 8, 2) := by decide +kernel
theorem dX2_init_95 : decode cX2_init 95 = .ok (.if_icmp .ge 21, 3) := by decide +kernel
theorem dX2_init_98 : decode cX2_init 98 = .ok (.aload_n 0, 1) := by decide +kernel
theorem dX2_init_99 : decode cX2_init 99 = .ok (.getfield 13, 3) := by decide +kernel
theorem dX2_init_102 : decode cX2_init 102 = .ok (.bipush 8, 2) := by decide +kernel
theorem dX2_init_104 : decode cX2_init 104 = .ok (.iload_n 1, 1) := by decide +kernel
theorem dX2_init_105 : decode cX2_init 105 = .ok (.imul, 1) := by decide +kernel
theorem dX2_init_106 : decode cX2_init 106 = .ok (.iconst 3, 1) := by decide +kernel
theorem dX2_init_107 : decode cX2_init 107 = .ok (.iadd, 1) := by decide +kernel
theorem dX2_init_108 : decode cX2_init 108 = .ok (.iconst 1, 1) := by decide +kernel
theorem dX2_init_109 : decode cX2_init 109 = .ok (.iastore, 1) := by decide +kernel
theorem dX2_init_110 : decode cX2_init 110 = .ok (.iinc 1 1, 3) := by decide +kernel
theorem dX2_init_113 : decode cX2_init 113 = .ok (.goto (-21), 3) := by decide +kernel
theorem dX2_init_116 : decode cX2_init 116 = .ok (.return_, 1) := by decide +kernel
theorem dX2_thrown_0 : decode cX2_thrown 0 = .ok (.aload_n 0, 1) := by decide +kernel
theorem dX2_thrown_1 : decode cX2_thrown 1 = .ok (.getfield 44, 3) := by decide +kernel
theorem dX2_thrown_4 : decode cX2_thrown 4 = .ok (.ireturn, 1) := by decide +kernel
theorem dX2_no_0 : decode cX2_no 0 = .ok (.aload_n 0, 1) := by decide +kernel
theorem dX2_no_1 : decode cX2_no 1 = .ok (.iload_n 1, 1) := by decide +kernel
theorem dX2_no_2 : decode cX2_no 2 = .ok (.putfield 44, 3) := by decide +kernel
theorem dX2_no_5 : decode cX2_no 5 = .ok (.iconst 0, 1) := by decide +kernel
theorem dX2_no_6 : decode cX2_no 6 = .ok (.ireturn, 1) := by decide +kernel
theorem dX2_isIn_0 : decode cX2_isIn 0 = .ok (.iload_n 0, 1) := by decide +kernel
theorem dX2_isIn_1 : decode cX2_isIn 1 = .ok (.iload_n 1, 1) := by decide +kernel
theorem dX2_isIn_2 : decode cX2_isIn 2 = .ok (.if_icmp .lt 12, 3) := by decide +kernel
theorem dX2_isIn_5 : decode cX2_isIn 5 = .ok (.iload_n 0, 1) := by decide +kernel
theorem dX2_isIn_6 : decode cX2_isIn 6 = .ok (.iload_n 2, 1) := by decide +kernel
theorem dX2_isIn_7 : decode cX2_isIn 7 = .ok (.if_icmp .gt 7, 3) := by decide +kernel
theorem dX2_isIn_10 : decode cX2_isIn 10 = .ok (.iconst 1, 1) := by decide +kernel
theorem dX2_isIn_11 : decode cX2_isIn 11 = .ok (.goto 4, 3) := by decide +kernel
theorem dX2_isIn_14 : decode cX2_isIn 14 = .ok (.iconst 0, 1) := by decide +kernel
theorem dX2_isIn_15 : decode cX2_isIn 15 = .ok (.ireturn, 1) := by decide +kernel
set_option maxRecDepth 20000 in
theorem ggX2_isPlace_X2_isIn : GoodIn wsX2_isPlace wsX2_isIn := goodIn_r _ [4] (by decide +kernel) (by decide +kernel)
set_option maxRecDepth 20000 in
theorem gX2_isPlace_X2_isIn : GoodIn wsX2_isPlace (va_wsS RX2 47 yX2_isIn wsX2_isIn) := goodIn_app (goodIn_of _ (by decide +kernel)) ggX2_isPlace_X2_isIn
theorem dX2_isPlace_0 : decode cX2_isPlace 0 = .ok (.iload_n 0, 1) := by decide +kernel
theorem dX2_isPlace_1 : decode cX2_isPlace 1 = .ok (.iconst 0, 1) := by decide +kernel
theorem dX2_isPlace_2 : decode cX2_isPlace 2 = .ok (.bipush 7, 2) := by decide +kernel
theorem dX2_isPlace_4 : decode cX2_isPlace 4 = .ok (.invokestatic 47, 3) := by decide +kernel
theorem dX2_isPlace_7 : decode cX2_isPlace 7 = .ok (.ifCond .eq 17, 3) := by decide +kernel
theorem dX2_isPlace_10 : decode cX2_isPlace 10 = .ok (.iload_n 1, 1) := by decide +kernel
theorem dX2_isPlace_11 : decode cX2_isPlace 11 = .ok (.iconst 0, 1) := by decide +kernel
theorem dX2_isPlace_12 : decode cX2_isPlace 12 = .ok (.bipush 7, 2) := by decide +kernel
theorem dX2_isPlace_14 : decode cX2_isPlace 14 = .ok (.invokestatic 47, 3) := by decide +kernel
theorem dX2_isPlace_17 : decode cX2_isPlace 17 = .ok (.ifCond .eq 7, 3) := by decide +kernel
theorem dX2_isPlace_20 : decode cX2_isPlace 20 = .ok (.iconst 1, 1) := by decide +kernel
theorem dX2_isPlace_21 : decode cX2_isPlace 21 = .ok (.goto 4, 3) := by decide +kernel
theorem dX2_isPlace_24 : decode cX2_isPlace 24 = .ok (.iconst 0, 1) := by decide +kernel
theorem dX2_isPlace_25 : decode cX2_isPlace 25 = .ok (.ireturn, 1) := by decide +kernel
theorem dX2_isLand_0 : decode cX2_isLand 0 = .ok (.iload_n 0, 1) := by decide +kernel
theorem dX2_isLand_1 : decode cX2_isLand 1 = .ok (.iconst 2, 1) := by decide +kernel
theorem dX2_isLand_2 : decode cX2_isLand 2 = .ok (.if_icmp .lt 7, 3) := by decide +kernel
theorem dX2_isLand_5 : decode cX2_isLand 5 = .ok (.iconst 1, 1) := by decide +kernel
theorem dX2_isLand_6 : decode cX2_isLand 6 = .ok (.goto 4, 3) := by decide +kernel
theorem dX2_isLand_9 : decode cX2_isLand 9 = .ok (.iconst 0, 1) := by decide +kernel
theorem dX2_isLand_10 : decode cX2_isLand 10 = .ok (.ireturn, 1) := by decide +kernel
theorem dX2_isWater_0 : decode cX2_isWater 0 = .ok (.iload_n 0, 1) := by decide +kernel
theorem dX2_isWater_1 : decode cX2_isWater 1 = .ok (.iconst 1, 1) := by decide +kernel
theorem dX2_isWater_2 : decode cX2_isWater 2 = .ok (.if_icmp .eq 9, 3) := by decide +kernel
theorem dX2_isWater_5 : decode cX2_isWater 5 = .ok (.iload_n 0, 1) := by decide +kernel
theorem dX2_isWater_6 : decode cX2_isWater 6 = .ok (.bipush 6, 2) := by decide +kernel
theorem dX2_isWater_8 : decode cX2_isWater 8 = .ok (.if_icmp .ne 7, 3) := by decide +kernel
theorem dX2_isWater_11 : decode cX2_isWater 11 = .ok (.iconst 1, 1) := by decide +kernel
theorem dX2_isWater_12 : decode cX2_isWater 12 = .ok (.goto 4, 3) := by decide +kernel
theorem dX2_isWater_15 : decode cX2_isWater 15 = .ok (.iconst 0, 1) := by decide +kernel
theorem dX2_isWater_16 : decode cX2_isWater 16 = .ok (.ireturn, 1) := by decide +kernel
set_option maxRecDepth 20000 in
theorem ggX2_beside_X2_isPlace : GoodIn wsX2_beside wsX2_isPlace := goodIn_r _ [4, 5, 6, 3, 7] (by decide +kernel) (by decide +kernel)
set_option maxRecDepth 20000 in
theorem gX2_beside_X2_isPlace : GoodIn wsX2_beside (va_wsS RX2 51 yX2_isPlace wsX2_isPlace) := goodIn_app (goodIn_of _ (by decide +kernel)) ggX2_beside_X2_isPlace
theorem dX2_beside_0 : decode cX2_beside 0 = .ok (.iload_n 0, 1) := by decide +kernel
theorem dX2_beside_1 : decode cX2_beside 1 = .ok (.bipush 8, 2) := by decide +kernel
theorem dX2_beside_3 : decode cX2_beside 3 = .ok (.irem, 1) := by decide +kernel
theorem dX2_beside_4 : decode cX2_beside 4 = .ok (.iload_n 1, 1) := by decide +kernel
theorem dX2_beside_5 : decode cX2_beside 5 = .ok (.ifCond .ne 7, 3) := by decide +kernel
theorem dX2_beside_8 : decode cX2_beside 8 = .ok (.iconst 1, 1) := by decide +kernel
theorem dX2_beside_9 : decode cX2_beside 9 = .ok (.goto 13, 3) := by decide +kernel
theorem dX2_beside_12 : decode cX2_beside 12 = .ok (.iload_n 1, 1) := by decide +kernel
theorem dX2_beside_13 : decode cX2_beside 13 = .ok (.iconst 1, 1) := by decide +kernel
theorem dX2_beside_14 : decode cX2_beside 14 = .ok (.if_icmp .ne 7, 3) := by decide +kernel
theorem dX2_beside_17 : decode cX2_beside 17 = .ok (.iconst (-1), 1) := by decide +kernel
theorem dX2_beside_18 : decode cX2_beside 18 = .ok (.goto 4, 3) := by decide +kernel
theorem dX2_beside_21 : decode cX2_beside 21 = .ok (.iconst 0, 1) := by decide +kernel
theorem dX2_beside_22 : decode cX2_beside 22 = .ok (.iadd, 1) := by decide +kernel
theorem dX2_beside_23 : decode cX2_beside 23 = .ok (.istore_n 2, 1) := by decide +kernel
theorem dX2_beside_24 : decode cX2_beside 24 = .ok (.iload_n 0, 1) := by decide +kernel
theorem dX2_beside_25 : decode cX2_beside 25 = .ok (.bipush 8, 2) := by decide +kernel
theorem dX2_beside_27 : decode cX2_beside 27 = .ok (.idiv, 1) := by decide +kernel
theorem dX2_beside_28 : decode cX2_beside 28 = .ok (.iload_n 1, 1) := by decide +kernel
theorem dX2_beside_29 : decode cX2_beside 29 = .ok (.iconst 2, 1) := by decide +kernel
theorem dX2_beside_30 : decode cX2_beside 30 = .ok (.if_icmp .ne 7, 3) := by decide +kernel
theorem dX2_beside_33 : decode cX2_beside 33 = .ok (.iconst 1, 1) := by decide +kernel
theorem dX2_beside_34 : decode cX2_beside 34 = .ok (.goto 13, 3) := by decide +kernel
theorem dX2_beside_37 : decode cX2_beside 37 = .ok (.iload_n 1, 1) := by decide +kernel
theorem dX2_beside_38 : decode cX2_beside 38 = .ok (.iconst 3, 1) := by decide +kernel
theorem dX2_beside_39 : decode cX2_beside 39 = .ok (.if_icmp .ne 7, 3) := by decide +kernel
theorem dX2_beside_42 : decode cX2_beside 42 = .ok (.iconst (-1), 1) := by decide +kernel
theorem dX2_beside_43 : decode cX2_beside 43 = .ok (.goto 4, 3) := by decide +kernel
theorem dX2_beside_46 : decode cX2_beside 46 = .ok (.iconst 0, 1) := by decide +kernel
theorem dX2_beside_47 : decode cX2_beside 47 = .ok (.iadd, 1) := by decide +kernel
theorem dX2_beside_48 : decode cX2_beside 48 = .ok (.istore_n 3, 1) := by decide +kernel
theorem dX2_beside_49 : decode cX2_beside 49 = .ok (.iload_n 2, 1) := by decide +kernel
theorem dX2_beside_50 : decode cX2_beside 50 = .ok (.iload_n 3, 1) := by decide +kernel
theorem dX2_beside_51 : decode cX2_beside 51 = .ok (.invokestatic 51, 3) := by decide +kernel
theorem dX2_beside_54 : decode cX2_beside 54 = .ok (.ifCond .eq 12, 3) := by decide +kernel
theorem dX2_beside_57 : decode cX2_beside 57 = .ok (.bipush 8, 2) := by decide +kernel
theorem dX2_beside_59 : decode cX2_beside 59 = .ok (.iload_n 3, 1) := by decide +kernel
theorem dX2_beside_60 : decode cX2_beside 60 = .ok (.imul, 1) := by decide +kernel
theorem dX2_beside_61 : decode cX2_beside 61 = .ok (.iload_n 2, 1) := by decide +kernel
theorem dX2_beside_62 : decode cX2_beside 62 = .ok (.iadd, 1) := by decide +kernel
theorem dX2_beside_63 : decode cX2_beside 63 = .ok (.goto 4, 3) := by decide +kernel
theorem dX2_beside_66 : decode cX2_beside 66 = .ok (.iconst (-1), 1) := by decide +kernel
theorem dX2_beside_67 : decode cX2_beside 67 = .ok (.ireturn, 1) := by decide +kernel
set_option maxRecDepth 20000 in
theorem ggX2_fill_X2_beside : GoodIn wsX2_fill wsX2_beside := goodIn_r _ [6, 7, 8, 5, 9, 10, 11, 12] (by decide +kernel) (by decide +kernel)
set_option maxRecDepth 20000 in
theorem gX2_fill_X2_beside : GoodIn wsX2_fill (va_wsS RX2 55 yX2_beside wsX2_beside) := goodIn_app (goodIn_of _ (by decide +kernel)) ggX2_fill_X2_beside
set_option maxRecDepth 20000 in
theorem ggX2_fill_X2_isLand : GoodIn wsX2_fill wsX2_isLand := goodIn_r _ [15] (by decide +kernel) (by decide +kernel)
set_option maxRecDepth 20000 in
theorem gX2_fill_X2_isLand : GoodIn wsX2_fill (va_wsS RX2 59 yX2_isLand wsX2_isLand) := goodIn_app (goodIn_of _ (by decide +kernel)) ggX2_fill_X2_isLand
set_option maxRecDepth 20000 in
theorem ggX2_fill_X2_isWater : GoodIn wsX2_fill wsX2_isWater := goodIn_r _ [18] (by decide +kernel) (by decide +kernel)
set_option maxRecDepth 20000 in
theorem gX2_fill_X2_isWater : GoodIn wsX2_fill (va_wsS RX2 63 yX2_isWater wsX2_isWater) := goodIn_app (goodIn_of _ (by decide +kernel)) ggX2_fill_X2_isWater
theorem dX2_fill_0 : decode cX2_fill 0 = .ok (.iconst 0, 1) := by decide +kernel
theorem dX2_fill_1 : decode cX2_fill 1 = .ok (.istore 4, 2) := by decide +kernel
theorem dX2_fill_3 : decode cX2_fill 3 = .ok (.iload 4, 2) := by decide +kernel
theorem dX2_fill_5 : decode cX2_fill 5 = .ok (.bipush 64, 2) := by decide +kernel
theorem dX2_fill_7 : decode cX2_fill 7 = .ok (.if_icmp .ge 19, 3) := by decide +kernel
theorem dX2_fill_10 : decode cX2_fill 10 = .ok (.aload_n 0, 1) := by decide +kernel
theorem dX2_fill_11 : decode cX2_fill 11 = .ok (.getfield 41, 3) := by decide +kernel
theorem dX2_fill_14 : decode cX2_fill 14 = .ok (.iload 4, 2) := by decide +kernel
theorem dX2_fill_16 : decode cX2_fill 16 = .ok (.sipush 999, 3) := by decide +kernel
theorem dX2_fill_19 : decode cX2_fill 19 = .ok (.iastore, 1) := by decide +kernel
theorem dX2_fill_20 : decode cX2_fill 20 = .ok (.iinc 4 1, 3) := by decide +kernel
theorem dX2_fill_23 : decode cX2_fill 23 = .ok (.goto (-20), 3) := by decide +kernel
theorem dX2_fill_26 : decode cX2_fill 26 = .ok (.aload_n 0, 1) := by decide +kernel
theorem dX2_fill_27 : decode cX2_fill 27 = .ok (.getfield 41, 3) := by decide +kernel
theorem dX2_fill_30 : decode cX2_fill 30 = .ok (.iload_n 2, 1) := by decide +kernel
theorem dX2_fill_31 : decode cX2_fill 31 = .ok (.iconst 0, 1) := by decide +kernel
theorem dX2_fill_32 : decode cX2_fill 32 = .ok (.iastore, 1) := by decide +kernel
theorem dX2_fill_33 : decode cX2_fill 33 = .ok (.aload_n 0, 1) := by decide +kernel
theorem dX2_fill_34 : decode cX2_fill 34 = .ok (.getfield 38, 3) := by decide +kernel
theorem dX2_fill_37 : decode cX2_fill 37 = .ok (.iconst 0, 1) := by decide +kernel
theorem dX2_fill_38 : decode cX2_fill 38 = .ok (.iload_n 2, 1) := by decide +kernel
theorem dX2_fill_39 : decode cX2_fill 39 = .ok (.iastore, 1) := by decide +kernel
theorem dX2_fill_40 : decode cX2_fill 40 = .ok (.iconst 1, 1) := by decide +kernel
theorem dX2_fill_41 : decode cX2_fill 41 = .ok (.istore 4, 2) := by decide +kernel
theorem dX2_fill_43 : decode cX2_fill 43 = .ok (.iconst 0, 1) := by decide +kernel
theorem dX2_fill_44 : decode cX2_fill 44 = .ok (.istore 5, 2) := by decide +kernel
theorem dX2_fill_46 : decode cX2_fill 46 = .ok (.iload 5, 2) := by decide +kernel
theorem dX2_fill_48 : decode cX2_fill 48 = .ok (.iload 4, 2) := by decide +kernel
theorem dX2_fill_50 : decode cX2_fill 50 = .ok (.if_icmp .ge 120, 3) := by decide +kernel
theorem dX2_fill_53 : decode cX2_fill 53 = .ok (.iconst 0, 1) := by decide +kernel
theorem dX2_fill_54 : decode cX2_fill 54 = .ok (.istore 6, 2) := by decide +kernel
theorem dX2_fill_56 : decode cX2_fill 56 = .ok (.iload 6, 2) := by decide +kernel
theorem dX2_fill_58 : decode cX2_fill 58 = .ok (.iconst 4, 1) := by decide +kernel
theorem dX2_fill_59 : decode cX2_fill 59 = .ok (.if_icmp .ge 105, 3) := by decide +kernel
theorem dX2_fill_62 : decode cX2_fill 62 = .ok (.aload_n 0, 1) := by decide +kernel
theorem dX2_fill_63 : decode cX2_fill 63 = .ok (.getfield 38, 3) := by decide +kernel
theorem dX2_fill_66 : decode cX2_fill 66 = .ok (.iload 5, 2) := by decide +kernel
theorem dX2_fill_68 : decode cX2_fill 68 = .ok (.iaload, 1) := by decide +kernel
theorem dX2_fill_69 : decode cX2_fill 69 = .ok (.iload 6, 2) := by decide +kernel
theorem dX2_fill_71 : decode cX2_fill 71 = .ok (.invokestatic 55, 3) := by decide +kernel
theorem dX2_fill_74 : decode cX2_fill 74 = .ok (.istore 7, 2) := by decide +kernel
theorem dX2_fill_76 : decode cX2_fill 76 = .ok (.iload 7, 2) := by decide +kernel
theorem dX2_fill_78 : decode cX2_fill 78 = .ok (.iconst (-1), 1) := by decide +kernel
theorem dX2_fill_79 : decode cX2_fill 79 = .ok (.if_icmp .eq 79, 3) := by decide +kernel
theorem dX2_fill_82 : decode cX2_fill 82 = .ok (.aload_n 0, 1) := by decide +kernel
theorem dX2_fill_83 : decode cX2_fill 83 = .ok (.getfield 41, 3) := by decide +kernel
theorem dX2_fill_86 : decode cX2_fill 86 = .ok (.iload 7, 2) := by decide +kernel
theorem dX2_fill_88 : decode cX2_fill 88 = .ok (.iaload, 1) := by decide +kernel
theorem dX2_fill_89 : decode cX2_fill 89 = .ok (.sipush 999, 3) := by decide +kernel
theorem dX2_fill_92 : decode cX2_fill 92 = .ok (.if_icmp .ne 66, 3) := by decide +kernel
theorem dX2_fill_95 : decode cX2_fill 95 = .ok (.iload_n 3, 1) := by decide +kernel
theorem dX2_fill_96 : decode cX2_fill 96 = .ok (.ifCond .eq 16, 3) := by decide +kernel
theorem dX2_fill_99 : decode cX2_fill 99 = .ok (.aload_n 1, 1) := by decide +kernel
theorem dX2_fill_100 : decode cX2_fill 100 = .ok (.iload 7, 2) := by decide +kernel
theorem dX2_fill_102 : decode cX2_fill 102 = .ok (.iaload, 1) := by decide +kernel
theorem dX2_fill_103 : decode cX2_fill 103 = .ok (.invokestatic 59, 3) := by decide +kernel
theorem dX2_fill_106 : decode cX2_fill 106 = .ok (.ifCond .eq 52, 3) := by decide +kernel
theorem dX2_fill_109 : decode cX2_fill 109 = .ok (.goto 16, 3) := by decide +kernel
theorem dX2_fill_112 : decode cX2_fill 112 = .ok (.aload_n 1, 1) := by decide +kernel
theorem dX2_fill_113 : decode cX2_fill 113 = .ok (.iload 7, 2) := by decide +kernel
theorem dX2_fill_115 : decode cX2_fill 115 = .ok (.iaload, 1) := by decide +kernel
theorem dX2_fill_116 : decode cX2_fill 116 = .ok (.invokestatic 63, 3) := by decide +kernel
theorem dX2_fill_119 : decode cX2_fill 119 = .ok (.ifCond .ne 6, 3) := by decide +kernel
theorem dX2_fill_122 : decode cX2_fill 122 = .ok (.goto 36, 3) := by decide +kernel
theorem dX2_fill_125 : decode cX2_fill 125 = .ok (.aload_n 0, 1) := by decide +kernel
theorem dX2_fill_126 : decode cX2_fill 126 = .ok (.getfield 41, 3) := by decide +kernel
theorem dX2_fill_129 : decode cX2_fill 129 = .ok (.iload 7, 2) := by decide +kernel
theorem dX2_fill_131 : decode cX2_fill 131 = .ok (.aload_n 0, 1) := by decide +kernel
theorem dX2_fill_132 : decode cX2_fill 132 = .ok (.getfield 41, 3) := by decide +kernel
theorem dX2_fill_135 : decode cX2_fill 135 = .ok (.aload_n 0, 1) := by decide +kernel
theorem dX2_fill_136 : decode cX2_fill 136 = .ok (.getfield 38, 3) := by decide +kernel
theorem dX2_fill_139 : decode cX2_fill 139 = .ok (.iload 5, 2) := by decide +kernel
theorem dX2_fill_141 : decode cX2_fill 141 = .ok (.iaload, 1) := by decide +kernel
theorem dX2_fill_142 : decode cX2_fill 142 = .ok (.iaload, 1) := by decide +kernel
theorem dX2_fill_143 : decode cX2_fill 143 = .ok (.iconst 1, 1) := by decide +kernel
theorem dX2_fill_144 : decode cX2_fill 144 = .ok (.iadd, 1) := by decide +kernel
theorem dX2_fill_145 : decode cX2_fill 145 = .ok (.iastore, 1) := by decide +kernel
theorem dX2_fill_146 : decode cX2_fill 146 = .ok (.aload_n 0, 1) := by decide +kernel
theorem dX2_fill_147 : decode cX2_fill 147 = .ok (.getfield 38, 3) := by decide +kernel
theorem dX2_fill_150 : decode cX2_fill 150 = .ok (.iload 4, 2) := by decide +kernel
theorem dX2_fill_152 : decode cX2_fill 152 = .ok (.iload 7, 2) := by decide +kernel
theorem dX2_fill_154 : decode cX2_fill 154 = .ok (.iastore, 1) := by decide +kernel
theorem dX2_fill_155 : decode cX2_fill 155 = .ok (.iinc 4 1, 3) := by decide +kernel
theorem dX2_fill_158 : decode cX2_fill 158 = .ok (.iinc 6 1, 3) := by decide +kernel
theorem dX2_fill_161 : decode cX2_fill 161 = .ok (.goto (-105), 3) := by decide +kernel
theorem dX2_fill_164 : decode cX2_fill 164 = .ok (.iinc 5 1, 3) := by decide +kernel
theorem dX2_fill_167 : decode cX2_fill 167 = .ok (.goto (-121), 3) := by decide +kernel
theorem dX2_fill_170 : decode cX2_fill 170 = .ok (.iload 4, 2) := by decide +kernel
theorem dX2_fill_172 : decode cX2_fill 172 = .ok (.ireturn, 1) := by decide +kernel
set_option maxRecDepth 20000 in
theorem ggX2_look_X2_fill : GoodIn wsX2_look wsX2_fill := goodIn_r _ [12, 2, 7, 13, 14, 11, 15, 16, 17, 18, 19, 20, 21, 22, 23, 24, 25, 26, 27, 28, 29, 30, 31, 32, 33, 34, 35, 36, 37, 38, 39, 40, 41] (by decide +kernel) (by decide +kernel)
set_option maxRecDepth 20000 in
theorem gX2_look_X2_fill : GoodIn wsX2_look (wsV RX2 66 RX2 yX2_fill wsX2_fill) := goodIn_app (goodIn_of _ (by decide +kernel)) ggX2_look_X2_fill
set_option maxRecDepth 20000 in
theorem ggX2_look_X2_isLand : GoodIn wsX2_look wsX2_isLand := goodIn_r _ [24] (by decide +kernel) (by decide +kernel)
set_option maxRecDepth 20000 in
theorem gX2_look_X2_isLand : GoodIn wsX2_look (va_wsS RX2 59 yX2_isLand wsX2_isLand) := goodIn_app (goodIn_of _ (by decide +kernel)) ggX2_look_X2_isLand
theorem dX2_look_0 : decode cX2_look 0 = .ok (.aload_n 0, 1) := by decide +kernel
theorem dX2_look_1 : decode cX2_look 1 = .ok (.aload_n 1, 1) := by decide +kernel
theorem dX2_look_2 : decode cX2_look 2 = .ok (.iconst 3, 1) := by decide +kernel
theorem dX2_look_3 : decode cX2_look 3 = .ok (.iconst 0, 1) := by decide +kernel
theorem dX2_look_4 : decode cX2_look 4 = .ok (.invokevirtual 66, 3) := by decide +kernel
theorem dX2_look_7 : decode cX2_look 7 = .ok (.pop, 1) := by decide +kernel
theorem dX2_look_8 : decode cX2_look 8 = .ok (.iconst 0, 1) := by decide +kernel
theorem dX2_look_9 : decode cX2_look 9 = .ok (.istore_n 2, 1) := by decide +kernel
theorem dX2_look_10 : decode cX2_look 10 = .ok (.iload_n 2, 1) := by decide +kernel
theorem dX2_look_11 : decode cX2_look 11 = .ok (.bipush 64, 2) := by decide +kernel
theorem dX2_look_13 : decode cX2_look 13 = .ok (.if_icmp .ge 39, 3) := by decide +kernel
theorem dX2_look_16 : decode cX2_look 16 = .ok (.aload_n 0, 1) := by decide +kernel
theorem dX2_look_17 : decode cX2_look 17 = .ok (.getfield 26, 3) := by decide +kernel
theorem dX2_look_20 : decode cX2_look 20 = .ok (.iload_n 2, 1) := by decide +kernel
theorem dX2_look_21 : decode cX2_look 21 = .ok (.aload_n 0, 1) := by decide +kernel
theorem dX2_look_22 : decode cX2_look 22 = .ok (.getfield 41, 3) := by decide +kernel
theorem dX2_look_25 : decode cX2_look 25 = .ok (.iload_n 2, 1) := by decide +kernel
theorem dX2_look_26 : decode cX2_look 26 = .ok (.iaload, 1) := by decide +kernel
theorem dX2_look_27 : decode cX2_look 27 = .ok (.sipush 999, 3) := by decide +kernel
theorem dX2_look_30 : decode cX2_look 30 = .ok (.if_icmp .ge 7, 3) := by decide +kernel
theorem dX2_look_33 : decode cX2_look 33 = .ok (.iconst 1, 1) := by decide +kernel
theorem dX2_look_34 : decode cX2_look 34 = .ok (.goto 4, 3) := by decide +kernel
theorem dX2_look_37 : decode cX2_look 37 = .ok (.iconst 0, 1) := by decide +kernel
theorem dX2_look_38 : decode cX2_look 38 = .ok (.iastore, 1) := by decide +kernel
theorem dX2_look_39 : decode cX2_look 39 = .ok (.aload_n 0, 1) := by decide +kernel
theorem dX2_look_40 : decode cX2_look 40 = .ok (.getfield 23, 3) := by decide +kernel
theorem dX2_look_43 : decode cX2_look 43 = .ok (.iload_n 2, 1) := by decide +kernel
theorem dX2_look_44 : decode cX2_look 44 = .ok (.iconst (-1), 1) := by decide +kernel
theorem dX2_look_45 : decode cX2_look 45 = .ok (.iastore, 1) := by decide +kernel
theorem dX2_look_46 : decode cX2_look 46 = .ok (.iinc 2 1, 3) := by decide +kernel
theorem dX2_look_49 : decode cX2_look 49 = .ok (.goto (-39), 3) := by decide +kernel
theorem dX2_look_52 : decode cX2_look 52 = .ok (.iconst 0, 1) := by decide +kernel
theorem dX2_look_53 : decode cX2_look 53 = .ok (.istore_n 2, 1) := by decide +kernel
theorem dX2_look_54 : decode cX2_look 54 = .ok (.iconst 0, 1) := by decide +kernel
theorem dX2_look_55 : decode cX2_look 55 = .ok (.istore_n 3, 1) := by decide +kernel
theorem dX2_look_56 : decode cX2_look 56 = .ok (.iload_n 3, 1) := by decide +kernel
theorem dX2_look_57 : decode cX2_look 57 = .ok (.bipush 64, 2) := by decide +kernel
theorem dX2_look_59 : decode cX2_look 59 = .ok (.if_icmp .ge 148, 3) := by decide +kernel
theorem dX2_look_62 : decode cX2_look 62 = .ok (.aload_n 1, 1) := by decide +kernel
theorem dX2_look_63 : decode cX2_look 63 = .ok (.iload_n 3, 1) := by decide +kernel
theorem dX2_look_64 : decode cX2_look 64 = .ok (.iaload, 1) := by decide +kernel
theorem dX2_look_65 : decode cX2_look 65 = .ok (.invokestatic 59, 3) := by decide +kernel
theorem dX2_look_68 : decode cX2_look 68 = .ok (.ifCond .eq 133, 3) := by decide +kernel
theorem dX2_look_71 : decode cX2_look 71 = .ok (.aload_n 0, 1) := by decide +kernel
theorem dX2_look_72 : decode cX2_look 72 = .ok (.getfield 23, 3) := by decide +kernel
theorem dX2_look_75 : decode cX2_look 75 = .ok (.iload_n 3, 1) := by decide +kernel
theorem dX2_look_76 : decode cX2_look 76 = .ok (.iaload, 1) := by decide +kernel
theorem dX2_look_77 : decode cX2_look 77 = .ok (.iconst (-1), 1) := by decide +kernel
theorem dX2_look_78 : decode cX2_look 78 = .ok (.if_icmp .eq 6, 3) := by decide +kernel
theorem dX2_look_81 : decode cX2_look 81 = .ok (.goto 120, 3) := by decide +kernel
theorem dX2_look_84 : decode cX2_look 84 = .ok (.iinc 2 1, 3) := by decide +kernel
theorem dX2_look_87 : decode cX2_look 87 = .ok (.aload_n 0, 1) := by decide +kernel
theorem dX2_look_88 : decode cX2_look 88 = .ok (.getfield 29, 3) := by decide +kernel
theorem dX2_look_91 : decode cX2_look 91 = .ok (.iload_n 3, 1) := by decide +kernel
theorem dX2_look_92 : decode cX2_look 92 = .ok (.aload_n 0, 1) := by decide +kernel
theorem dX2_look_93 : decode cX2_look 93 = .ok (.aload_n 1, 1) := by decide +kernel
theorem dX2_look_94 : decode cX2_look 94 = .ok (.iload_n 3, 1) := by decide +kernel
theorem dX2_look_95 : decode cX2_look 95 = .ok (.iconst 1, 1) := by decide +kernel
theorem dX2_look_96 : decode cX2_look 96 = .ok (.invokevirtual 66, 3) := by decide +kernel
theorem dX2_look_99 : decode cX2_look 99 = .ok (.iastore, 1) := by decide +kernel
theorem dX2_look_100 : decode cX2_look 100 = .ok (.aload_n 0, 1) := by decide +kernel
theorem dX2_look_101 : decode cX2_look 101 = .ok (.getfield 32, 3) := by decide +kernel
theorem dX2_look_104 : decode cX2_look 104 = .ok (.iload_n 3, 1) := by decide +kernel
theorem dX2_look_105 : decode cX2_look 105 = .ok (.iconst 0, 1) := by decide +kernel
theorem dX2_look_106 : decode cX2_look 106 = .ok (.iastore, 1) := by decide +kernel
theorem dX2_look_107 : decode cX2_look 107 = .ok (.aload_n 0, 1) := by decide +kernel
theorem dX2_look_108 : decode cX2_look 108 = .ok (.getfield 35, 3) := by decide +kernel
theorem dX2_look_111 : decode cX2_look 111 = .ok (.iload_n 3, 1) := by decide +kernel
theorem dX2_look_112 : decode cX2_look 112 = .ok (.iconst 0, 1) := by decide +kernel
theorem dX2_look_113 : decode cX2_look 113 = .ok (.iastore, 1) := by decide +kernel
theorem dX2_look_114 : decode cX2_look 114 = .ok (.iconst 0, 1) := by decide +kernel
theorem dX2_look_115 : decode cX2_look 115 = .ok (.istore 4, 2) := by decide +kernel
theorem dX2_look_117 : decode cX2_look 117 = .ok (.iload 4, 2) := by decide +kernel
theorem dX2_look_119 : decode cX2_look 119 = .ok (.aload_n 0, 1) := by decide +kernel
theorem dX2_look_120 : decode cX2_look 120 = .ok (.getfield 29, 3) := by decide +kernel
theorem dX2_look_123 : decode cX2_look 123 = .ok (.iload_n 3, 1) := by decide +kernel
theorem dX2_look_124 : decode cX2_look 124 = .ok (.iaload, 1) := by decide +kernel
theorem dX2_look_125 : decode cX2_look 125 = .ok (.if_icmp .ge 76, 3) := by decide +kernel
theorem dX2_look_128 : decode cX2_look 128 = .ok (.aload_n 0, 1) := by decide +kernel
theorem dX2_look_129 : decode cX2_look 129 = .ok (.getfield 23, 3) := by decide +kernel
theorem dX2_look_132 : decode cX2_look 132 = .ok (.aload_n 0, 1) := by decide +kernel
theorem dX2_look_133 : decode cX2_look 133 = .ok (.getfield 38, 3) := by decide +kernel
theorem dX2_look_136 : decode cX2_look 136 = .ok (.iload 4, 2) := by decide +kernel
theorem dX2_look_138 : decode cX2_look 138 = .ok (.iaload, 1) := by decide +kernel
theorem dX2_look_139 : decode cX2_look 139 = .ok (.iload_n 3, 1) := by decide +kernel
theorem dX2_look_140 : decode cX2_look 140 = .ok (.iastore, 1) := by decide +kernel
theorem dX2_look_141 : decode cX2_look 141 = .ok (.aload_n 0, 1) := by decide +kernel
theorem dX2_look_142 : decode cX2_look 142 = .ok (.getfield 32, 3) := by decide +kernel
theorem dX2_look_145 : decode cX2_look 145 = .ok (.iload_n 3, 1) := by decide +kernel
theorem dX2_look_146 : decode cX2_look 146 = .ok (.dup2, 1) := by decide +kernel
theorem dX2_look_147 : decode cX2_look 147 = .ok (.iaload, 1) := by decide +kernel
theorem dX2_look_148 : decode cX2_look 148 = .ok (.aload_n 1, 1) := by decide +kernel
theorem dX2_look_149 : decode cX2_look 149 = .ok (.aload_n 0, 1) := by decide +kernel
theorem dX2_look_150 : decode cX2_look 150 = .ok (.getfield 38, 3) := by decide +kernel
theorem dX2_look_153 : decode cX2_look 153 = .ok (.iload 4, 2) := by decide +kernel
theorem dX2_look_155 : decode cX2_look 155 = .ok (.iaload, 1) := by decide +kernel
theorem dX2_look_156 : decode cX2_look 156 = .ok (.iaload, 1) := by decide +kernel
theorem dX2_look_157 : decode cX2_look 157 = .ok (.iconst 3, 1) := by decide +kernel
theorem dX2_look_158 : decode cX2_look 158 = .ok (.if_icmp .ne 7, 3) := by decide +kernel
theorem dX2_look_161 : decode cX2_look 161 = .ok (.iconst 1, 1) := by decide +kernel
theorem dX2_look_162 : decode cX2_look 162 = .ok (.goto 4, 3) := by decide +kernel
theorem dX2_look_165 : decode cX2_look 165 = .ok (.iconst 0, 1) := by decide +kernel
theorem dX2_look_166 : decode cX2_look 166 = .ok (.iadd, 1) := by decide +kernel
theorem dX2_look_167 : decode cX2_look 167 = .ok (.iastore, 1) := by decide +kernel
theorem dX2_look_168 : decode cX2_look 168 = .ok (.aload_n 0, 1) := by decide +kernel
theorem dX2_look_169 : decode cX2_look 169 = .ok (.getfield 35, 3) := by decide +kernel
theorem dX2_look_172 : decode cX2_look 172 = .ok (.iload_n 3, 1) := by decide +kernel
theorem dX2_look_173 : decode cX2_look 173 = .ok (.dup2, 1) := by decide +kernel
theorem dX2_look_174 : decode cX2_look 174 = .ok (.iaload, 1) := by decide +kernel
theorem dX2_look_175 : decode cX2_look 175 = .ok (.aload_n 1, 1) := by decide +kernel
theorem dX2_look_176 : decode cX2_look 176 = .ok (.aload_n 0, 1) := by decide +kernel
theorem dX2_look_177 : decode cX2_look 177 = .ok (.getfield 38, 3) := by decide +kernel
theorem dX2_look_180 : decode cX2_look 180 = .ok (.iload 4, 2) := by decide +kernel
theorem dX2_look_182 : decode cX2_look 182 = .ok (.iaload, 1) := by decide +kernel
theorem dX2_look_183 : decode cX2_look 183 = .ok (.iaload, 1) := by decide +kernel
theorem dX2_look_184 : decode cX2_look 184 = .ok (.iconst 5, 1) := by decide +kernel
theorem dX2_look_185 : decode cX2_look 185 = .ok (.if_icmp .ne 7, 3) := by decide +kernel
theorem dX2_look_188 : decode cX2_look 188 = .ok (.iconst 1, 1) := by decide +kernel
theorem dX2_look_189 : decode cX2_look 189 = .ok (.goto 4, 3) := by decide +kernel
theorem dX2_look_192 : decode cX2_look 192 = .ok (.iconst 0, 1) := by decide +kernel
theorem dX2_look_193 : decode cX2_look 193 = .ok (.iadd, 1) := by decide +kernel
theorem dX2_look_194 : decode cX2_look 194 = .ok (.iastore, 1) := by decide +kernel
theorem dX2_look_195 : decode cX2_look 195 = .ok (.iinc 4 1, 3) := by decide +kernel
theorem dX2_look_198 : decode cX2_look 198 = .ok (.goto (-81), 3) := by decide +kernel
theorem dX2_look_201 : decode cX2_look 201 = .ok (.iinc 3 1, 3) := by decide +kernel
theorem dX2_look_204 : decode cX2_look 204 = .ok (.goto (-148), 3) := by decide +kernel
theorem dX2_look_207 : decode cX2_look 207 = .ok (.iload_n 2, 1) := by decide +kernel
theorem dX2_look_208 : decode cX2_look 208 = .ok (.ireturn, 1) := by decide +kernel
set_option maxRecDepth 20000 in
theorem ggX2_besideOf_X2_beside : GoodIn wsX2_besideOf wsX2_beside := goodIn_r _ [4, 5, 6, 3, 7, 8, 9, 10] (by decide +kernel) (by decide +kernel)
set_option maxRecDepth 20000 in
theorem gX2_besideOf_X2_beside : GoodIn wsX2_besideOf (va_wsS RX2 55 yX2_beside wsX2_beside) := goodIn_app (goodIn_of _ (by decide +kernel)) ggX2_besideOf_X2_beside
theorem dX2_besideOf_0 : decode cX2_besideOf 0 = .ok (.iconst 0, 1) := by decide +kernel
theorem dX2_besideOf_1 : decode cX2_besideOf 1 = .ok (.istore_n 3, 1) := by decide +kernel
theorem dX2_besideOf_2 : decode cX2_besideOf 2 = .ok (.iconst 0, 1) := by decide +kernel
theorem dX2_besideOf_3 : decode cX2_besideOf 3 = .ok (.istore 4, 2) := by decide +kernel
theorem dX2_besideOf_5 : decode cX2_besideOf 5 = .ok (.iload 4, 2) := by decide +kernel
theorem dX2_besideOf_7 : decode cX2_besideOf 7 = .ok (.iconst 4, 1) := by decide +kernel
theorem dX2_besideOf_8 : decode cX2_besideOf 8 = .ok (.if_icmp .ge 39, 3) := by decide +kernel
theorem dX2_besideOf_11 : decode cX2_besideOf 11 = .ok (.iload_n 3, 1) := by decide +kernel
theorem dX2_besideOf_12 : decode cX2_besideOf 12 = .ok (.iload_n 1, 1) := by decide +kernel
theorem dX2_besideOf_13 : decode cX2_besideOf 13 = .ok (.iload 4, 2) := by decide +kernel
theorem dX2_besideOf_15 : decode cX2_besideOf 15 = .ok (.invokestatic 55, 3) := by decide +kernel
theorem dX2_besideOf_18 : decode cX2_besideOf 18 = .ok (.iconst (-1), 1) := by decide +kernel
theorem dX2_besideOf_19 : decode cX2_besideOf 19 = .ok (.if_icmp .eq 19, 3) := by decide +kernel
theorem dX2_besideOf_22 : decode cX2_besideOf 22 = .ok (.aload_n 0, 1) := by decide +kernel
theorem dX2_besideOf_23 : decode cX2_besideOf 23 = .ok (.iload_n 1, 1) := by decide +kernel
theorem dX2_besideOf_24 : decode cX2_besideOf 24 = .ok (.iload 4, 2) := by decide +kernel
theorem dX2_besideOf_26 : decode cX2_besideOf 26 = .ok (.invokestatic 55, 3) := by decide +kernel
theorem dX2_besideOf_29 : decode cX2_besideOf 29 = .ok (.iaload, 1) := by decide +kernel
theorem dX2_besideOf_30 : decode cX2_besideOf 30 = .ok (.iload_n 2, 1) := by decide +kernel
theorem dX2_besideOf_31 : decode cX2_besideOf 31 = .ok (.if_icmp .ne 7, 3) := by decide +kernel
theorem dX2_besideOf_34 : decode cX2_besideOf 34 = .ok (.iconst 1, 1) := by decide +kernel
theorem dX2_besideOf_35 : decode cX2_besideOf 35 = .ok (.goto 4, 3) := by decide +kernel
theorem dX2_besideOf_38 : decode cX2_besideOf 38 = .ok (.iconst 0, 1) := by decide +kernel
theorem dX2_besideOf_39 : decode cX2_besideOf 39 = .ok (.iadd, 1) := by decide +kernel
theorem dX2_besideOf_40 : decode cX2_besideOf 40 = .ok (.istore_n 3, 1) := by decide +kernel
theorem dX2_besideOf_41 : decode cX2_besideOf 41 = .ok (.iinc 4 1, 3) := by decide +kernel
theorem dX2_besideOf_44 : decode cX2_besideOf 44 = .ok (.goto (-39), 3) := by decide +kernel
theorem dX2_besideOf_47 : decode cX2_besideOf 47 = .ok (.iload_n 3, 1) := by decide +kernel
theorem dX2_besideOf_48 : decode cX2_besideOf 48 = .ok (.ireturn, 1) := by decide +kernel
set_option maxRecDepth 20000 in
theorem ggX2_isByBoat_X2_isLand : GoodIn wsX2_isByBoat wsX2_isLand := goodIn_r _ [5] (by decide +kernel) (by decide +kernel)
set_option maxRecDepth 20000 in
theorem gX2_isByBoat_X2_isLand : GoodIn wsX2_isByBoat (va_wsS RX2 59 yX2_isLand wsX2_isLand) := goodIn_app (goodIn_of _ (by decide +kernel)) ggX2_isByBoat_X2_isLand
set_option maxRecDepth 20000 in
theorem ggX2_isByBoat_X2_beside : GoodIn wsX2_isByBoat wsX2_beside := goodIn_r _ [8, 9, 10, 4, 11, 12, 13, 14] (by decide +kernel) (by decide +kernel)
set_option maxRecDepth 20000 in
theorem gX2_isByBoat_X2_beside : GoodIn wsX2_isByBoat (va_wsS RX2 55 yX2_beside wsX2_beside) := goodIn_app (goodIn_of _ (by decide +kernel)) ggX2_isByBoat_X2_beside
theorem dX2_isByBoat_0 : decode cX2_isByBoat 0 = .ok (.aload_n 1, 1) := by decide +kernel
theorem dX2_isByBoat_1 : decode cX2_isByBoat 1 = .ok (.iload_n 2, 1) := by decide +kernel
theorem dX2_isByBoat_2 : decode cX2_isByBoat 2 = .ok (.iaload, 1) := by decide +kernel
theorem dX2_isByBoat_3 : decode cX2_isByBoat 3 = .ok (.invokestatic 59, 3) := by decide +kernel
theorem dX2_isByBoat_6 : decode cX2_isByBoat 6 = .ok (.ifCond .eq 11, 3) := by decide +kernel
theorem dX2_isByBoat_9 : decode cX2_isByBoat 9 = .ok (.aload_n 1, 1) := by decide +kernel
theorem dX2_isByBoat_10 : decode cX2_isByBoat 10 = .ok (.iload_n 2, 1) := by decide +kernel
theorem dX2_isByBoat_11 : decode cX2_isByBoat 11 = .ok (.iaload, 1) := by decide +kernel
theorem dX2_isByBoat_12 : decode cX2_isByBoat 12 = .ok (.bipush 6, 2) := by decide +kernel
theorem dX2_isByBoat_14 : decode cX2_isByBoat 14 = .ok (.if_icmp .ne 5, 3) := by decide +kernel
theorem dX2_isByBoat_17 : decode cX2_isByBoat 17 = .ok (.iconst 0, 1) := by decide +kernel
theorem dX2_isByBoat_18 : decode cX2_isByBoat 18 = .ok (.ireturn, 1) := by decide +kernel
theorem dX2_isByBoat_19 : decode cX2_isByBoat 19 = .ok (.iconst 0, 1) := by decide +kernel
theorem dX2_isByBoat_20 : decode cX2_isByBoat 20 = .ok (.istore_n 3, 1) := by decide +kernel
theorem dX2_isByBoat_21 : decode cX2_isByBoat 21 = .ok (.iload_n 3, 1) := by decide +kernel
theorem dX2_isByBoat_22 : decode cX2_isByBoat 22 = .ok (.iconst 4, 1) := by decide +kernel
theorem dX2_isByBoat_23 : decode cX2_isByBoat 23 = .ok (.if_icmp .ge 34, 3) := by decide +kernel
theorem dX2_isByBoat_26 : decode cX2_isByBoat 26 = .ok (.iload_n 2, 1) := by decide +kernel
theorem dX2_isByBoat_27 : decode cX2_isByBoat 27 = .ok (.iload_n 3, 1) := by decide +kernel
theorem dX2_isByBoat_28 : decode cX2_isByBoat 28 = .ok (.invokestatic 55, 3) := by decide +kernel
theorem dX2_isByBoat_31 : decode cX2_isByBoat 31 = .ok (.iconst (-1), 1) := by decide +kernel
theorem dX2_isByBoat_32 : decode cX2_isByBoat 32 = .ok (.if_icmp .eq 19, 3) := by decide +kernel
theorem dX2_isByBoat_35 : decode cX2_isByBoat 35 = .ok (.aload_n 0, 1) := by decide +kernel
theorem dX2_isByBoat_36 : decode cX2_isByBoat 36 = .ok (.getfield 26, 3) := by decide +kernel
theorem dX2_isByBoat_39 : decode cX2_isByBoat 39 = .ok (.iload_n 2, 1) := by decide +kernel
theorem dX2_isByBoat_40 : decode cX2_isByBoat 40 = .ok (.iload_n 3, 1) := by decide +kernel
theorem dX2_isByBoat_41 : decode cX2_isByBoat 41 = .ok (.invokestatic 55, 3) := by decide +kernel
theorem dX2_isByBoat_44 : decode cX2_isByBoat 44 = .ok (.iaload, 1) := by decide +kernel
theorem dX2_isByBoat_45 : decode cX2_isByBoat 45 = .ok (.iconst 1, 1) := by decide +kernel
theorem dX2_isByBoat_46 : decode cX2_isByBoat 46 = .ok (.if_icmp .ne 5, 3) := by decide +kernel
theorem dX2_isByBoat_49 : decode cX2_isByBoat 49 = .ok (.iconst 1, 1) := by decide +kernel
theorem dX2_isByBoat_50 : decode cX2_isByBoat 50 = .ok (.ireturn, 1) := by decide +kernel
theorem dX2_isByBoat_51 : decode cX2_isByBoat 51 = .ok (.iinc 3 1, 3) := by decide +kernel
theorem dX2_isByBoat_54 : decode cX2_isByBoat 54 = .ok (.goto (-33), 3) := by decide +kernel
theorem dX2_isByBoat_57 : decode cX2_isByBoat 57 = .ok (.iconst 0, 1) := by decide +kernel
theorem dX2_isByBoat_58 : decode cX2_isByBoat 58 = .ok (.ireturn, 1) := by decide +kernel
set_option maxRecDepth 20000 in
theorem ggX2_complaints_X2_besideOf : GoodIn wsX2_complaints wsX2_besideOf := goodIn_r _ [6, 7, 8, 5, 9, 10, 11, 12, 13, 14, 15] (by decide +kernel) (by decide +kernel)
set_option maxRecDepth 20000 in
theorem gX2_complaints_X2_besideOf : GoodIn wsX2_complaints (va_wsS RX2 70 yX2_besideOf wsX2_besideOf) := goodIn_app (goodIn_of _ (by decide +kernel)) ggX2_complaints_X2_besideOf
set_option maxRecDepth 20000 in
theorem ggX2_complaints_X2_isByBoat : GoodIn wsX2_complaints wsX2_isByBoat := goodIn_r _ [19, 20, 21, 22, 5, 23, 7, 8, 9, 10, 11, 12, 13, 14, 15, 24, 25, 26, 27, 28, 29, 30, 31, 32, 33, 34, 35, 36, 37] (by decide +kernel) (by decide +kernel)
set_option maxRecDepth 20000 in
theorem gX2_complaints_X2_isByBoat : GoodIn wsX2_complaints (wsV RX2 74 RX2 yX2_isByBoat wsX2_isByBoat) := goodIn_app (goodIn_of _ (by decide +kernel)) ggX2_complaints_X2_isByBoat
theorem dX2_complaints_0 : decode cX2_complaints 0 = .ok (.aload_n 1, 1) := by decide +kernel
theorem dX2_complaints_1 : decode cX2_complaints 1 = .ok (.iload_n 2, 1) := by decide +kernel
theorem dX2_complaints_2 : decode cX2_complaints 2 = .ok (.iaload, 1) := by decide +kernel
theorem dX2_complaints_3 : decode cX2_complaints 3 = .ok (.iconst 3, 1) := by decide +kernel
theorem dX2_complaints_4 : decode cX2_complaints 4 = .ok (.if_icmp .eq 5, 3) := by decide +kernel
theorem dX2_complaints_7 : decode cX2_complaints 7 = .ok (.iconst 0, 1) := by decide +kernel
theorem dX2_complaints_8 : decode cX2_complaints 8 = .ok (.ireturn, 1) := by decide +kernel
theorem dX2_complaints_9 : decode cX2_complaints 9 = .ok (.aload_n 0, 1) := by decide +kernel
theorem dX2_complaints_10 : decode cX2_complaints 10 = .ok (.getfield 35, 3) := by decide +kernel
theorem dX2_complaints_13 : decode cX2_complaints 13 = .ok (.aload_n 0, 1) := by decide +kernel
theorem dX2_complaints_14 : decode cX2_complaints 14 = .ok (.getfield 23, 3) := by decide +kernel
theorem dX2_complaints_17 : decode cX2_complaints 17 = .ok (.iload_n 2, 1) := by decide +kernel
theorem dX2_complaints_18 : decode cX2_complaints 18 = .ok (.iaload, 1) := by decide +kernel
theorem dX2_complaints_19 : decode cX2_complaints 19 = .ok (.iaload, 1) := by decide +kernel
theorem dX2_complaints_20 : decode cX2_complaints 20 = .ok (.ifCond .ne 7, 3) := by decide +kernel
theorem dX2_complaints_23 : decode cX2_complaints 23 = .ok (.iconst 2, 1) := by decide +kernel
theorem dX2_complaints_24 : decode cX2_complaints 24 = .ok (.goto 4, 3) := by decide +kernel
theorem dX2_complaints_27 : decode cX2_complaints 27 = .ok (.iconst 0, 1) := by decide +kernel
theorem dX2_complaints_28 : decode cX2_complaints 28 = .ok (.aload_n 1, 1) := by decide +kernel
theorem dX2_complaints_29 : decode cX2_complaints 29 = .ok (.iload_n 2, 1) := by decide +kernel
theorem dX2_complaints_30 : decode cX2_complaints 30 = .ok (.iconst 4, 1) := by decide +kernel
theorem dX2_complaints_31 : decode cX2_complaints 31 = .ok (.invokestatic 70, 3) := by decide +kernel
theorem dX2_complaints_34 : decode cX2_complaints 34 = .ok (.iadd, 1) := by decide +kernel
theorem dX2_complaints_35 : decode cX2_complaints 35 = .ok (.aload_n 0, 1) := by decide +kernel
theorem dX2_complaints_36 : decode cX2_complaints 36 = .ok (.aload_n 1, 1) := by decide +kernel
theorem dX2_complaints_37 : decode cX2_complaints 37 = .ok (.iload_n 2, 1) := by decide +kernel
theorem dX2_complaints_38 : decode cX2_complaints 38 = .ok (.invokevirtual 74, 3) := by decide +kernel
theorem dX2_complaints_41 : decode cX2_complaints 41 = .ok (.ifCond .eq 7, 3) := by decide +kernel
theorem dX2_complaints_44 : decode cX2_complaints 44 = .ok (.iconst 0, 1) := by decide +kernel
theorem dX2_complaints_45 : decode cX2_complaints 45 = .ok (.goto 4, 3) := by decide +kernel
theorem dX2_complaints_48 : decode cX2_complaints 48 = .ok (.iconst 1, 1) := by decide +kernel
theorem dX2_complaints_49 : decode cX2_complaints 49 = .ok (.iadd, 1) := by decide +kernel
theorem dX2_complaints_50 : decode cX2_complaints 50 = .ok (.ireturn, 1) := by decide +kernel
set_option maxRecDepth 20000 in
theorem ggX2_dues_X2_complaints : GoodIn wsX2_dues wsX2_complaints := goodIn_r _ [11, 12, 6, 13, 14, 10, 15, 16, 17, 18, 19, 20, 21, 22, 23, 24, 25, 26, 27, 28, 29, 30, 31, 32, 33, 34, 35, 36, 37, 38, 39, 40, 41, 42, 43, 44, 45, 46] (by decide +kernel) (by decide +kernel)
set_option maxRecDepth 20000 in
theorem gX2_dues_X2_complaints : GoodIn wsX2_dues (wsV RX2 78 RX2 yX2_complaints wsX2_complaints) := goodIn_app (goodIn_of _ (by decide +kernel)) ggX2_dues_X2_complaints
set_option maxRecDepth 20000 in
theorem ggX2_dues_X2_isByBoat : GoodIn wsX2_dues wsX2_isByBoat := goodIn_r _ [28, 29, 30, 31, 10, 32, 16, 17, 18, 19, 20, 21, 22, 23, 24, 33, 34, 35, 36, 37, 38, 39, 40, 41, 42, 43, 44, 45, 46] (by decide +kernel) (by decide +kernel)
set_option maxRecDepth 20000 in
theorem gX2_dues_X2_isByBoat : GoodIn wsX2_dues (wsV RX2 74 RX2 yX2_isByBoat wsX2_isByBoat) := goodIn_app (goodIn_of _ (by decide +kernel)) ggX2_dues_X2_isByBoat
theorem dX2_dues_0 : decode cX2_dues 0 = .ok (.aload_n 1, 1) := by decide +kernel
theorem dX2_dues_1 : decode cX2_dues 1 = .ok (.iload_n 2, 1) := by decide +kernel
theorem dX2_dues_2 : decode cX2_dues 2 = .ok (.iaload, 1) := by decide +kernel
theorem dX2_dues_3 : decode cX2_dues 3 = .ok (.tableswitch 67 3 5 #[25, 38, 53], 25) := by decide +kernel
theorem dX2_dues_28 : decode cX2_dues 28 = .ok (.iconst 0, 1) := by decide +kernel
theorem dX2_dues_29 : decode cX2_dues 29 = .ok (.iconst 4, 1) := by decide +kernel
theorem dX2_dues_30 : decode cX2_dues 30 = .ok (.aload_n 0, 1) := by decide +kernel
theorem dX2_dues_31 : decode cX2_dues 31 = .ok (.aload_n 1, 1) := by decide +kernel
theorem dX2_dues_32 : decode cX2_dues 32 = .ok (.iload_n 2, 1) := by decide +kernel
theorem dX2_dues_33 : decode cX2_dues 33 = .ok (.invokevirtual 78, 3) := by decide +kernel
theorem dX2_dues_36 : decode cX2_dues 36 = .ok (.isub, 1) := by decide +kernel
theorem dX2_dues_37 : decode cX2_dues 37 = .ok (.invokestatic 82, 3) := by decide +kernel
theorem dX2_dues_40 : decode cX2_dues 40 = .ok (.ireturn, 1) := by decide +kernel
theorem dX2_dues_41 : decode cX2_dues 41 = .ok (.aload_n 0, 1) := by decide +kernel
theorem dX2_dues_42 : decode cX2_dues 42 = .ok (.aload_n 1, 1) := by decide +kernel
theorem dX2_dues_43 : decode cX2_dues 43 = .ok (.iload_n 2, 1) := by decide +kernel
theorem dX2_dues_44 : decode cX2_dues 44 = .ok (.invokevirtual 74, 3) := by decide +kernel
theorem dX2_dues_47 : decode cX2_dues 47 = .ok (.ifCond .eq 7, 3) := by decide +kernel
theorem dX2_dues_50 : decode cX2_dues 50 = .ok (.iconst 5, 1) := by decide +kernel
theorem dX2_dues_51 : decode cX2_dues 51 = .ok (.goto 4, 3) := by decide +kernel
theorem dX2_dues_54 : decode cX2_dues 54 = .ok (.iconst 2, 1) := by decide +kernel
theorem dX2_dues_55 : decode cX2_dues 55 = .ok (.ireturn, 1) := by decide +kernel
theorem dX2_dues_56 : decode cX2_dues 56 = .ok (.aload_n 0, 1) := by decide +kernel
theorem dX2_dues_57 : decode cX2_dues 57 = .ok (.getfield 32, 3) := by decide +kernel
theorem dX2_dues_60 : decode cX2_dues 60 = .ok (.aload_n 0, 1) := by decide +kernel
theorem dX2_dues_61 : decode cX2_dues 61 = .ok (.getfield 23, 3) := by decide +kernel
theorem dX2_dues_64 : decode cX2_dues 64 = .ok (.iload_n 2, 1) := by decide +kernel
theorem dX2_dues_65 : decode cX2_dues 65 = .ok (.iaload, 1) := by decide +kernel
theorem dX2_dues_66 : decode cX2_dues 66 = .ok (.iaload, 1) := by decide +kernel
theorem dX2_dues_67 : decode cX2_dues 67 = .ok (.iconst 2, 1) := by decide +kernel
theorem dX2_dues_68 : decode cX2_dues 68 = .ok (.idiv, 1) := by decide +kernel
theorem dX2_dues_69 : decode cX2_dues 69 = .ok (.ireturn, 1) := by decide +kernel
theorem dX2_dues_70 : decode cX2_dues 70 = .ok (.iconst 0, 1) := by decide +kernel
theorem dX2_dues_71 : decode cX2_dues 71 = .ok (.ireturn, 1) := by decide +kernel
set_option maxRecDepth 20000 in
theorem ggX2_sum_X2_dues : GoodIn wsX2_sum wsX2_dues := goodIn_r _ [5, 6, 7, 8, 9, 10, 11, 12, 13, 14, 4, 15, 16, 17, 18, 19, 20, 21, 22, 23, 24, 25, 26, 27, 28, 29, 30, 31, 32, 33, 34, 35, 36, 37, 38, 39, 40, 41, 42, 43, 44, 45, 46, 47, 48, 49, 50] (by decide +kernel) (by decide +kernel)
set_option maxRecDepth 20000 in
theorem gX2_sum_X2_dues : GoodIn wsX2_sum (wsV RX2 87 RX2 yX2_dues wsX2_dues) := goodIn_app (goodIn_of _ (by decide +kernel)) ggX2_sum_X2_dues
set_option maxRecDepth 20000 in
theorem ggX2_sum_X2_complaints : GoodIn wsX2_sum wsX2_complaints := goodIn_r _ [15, 16, 11, 17, 18, 4, 19, 20, 21, 22, 23, 24, 25, 26, 27, 28, 29, 30, 31, 32, 33, 34, 35, 36, 37, 38, 39, 40, 41, 42, 43, 44, 45, 46, 47, 48, 49, 50] (by decide +kernel) (by decide +kernel)
set_option maxRecDepth 20000 in
theorem gX2_sum_X2_complaints : GoodIn wsX2_sum (wsV RX2 78 RX2 yX2_complaints wsX2_complaints) := goodIn_app (goodIn_of _ (by decide +kernel)) ggX2_sum_X2_complaints
theorem dX2_sum_0 : decode cX2_sum 0 = .ok (.iconst 0, 1) := by decide +kernel
theorem dX2_sum_1 : decode cX2_sum 1 = .ok (.istore_n 3, 1) := by decide +kernel
theorem dX2_sum_2 : decode cX2_sum 2 = .ok (.iconst 0, 1) := by decide +kernel
theorem dX2_sum_3 : decode cX2_sum 3 = .ok (.istore 4, 2) := by decide +kernel
theorem dX2_sum_5 : decode cX2_sum 5 = .ok (.iload 4, 2) := by decide +kernel
theorem dX2_sum_7 : decode cX2_sum 7 = .ok (.bipush 64, 2) := by decide +kernel
theorem dX2_sum_9 : decode cX2_sum 9 = .ok (.if_icmp .ge 33, 3) := by decide +kernel
theorem dX2_sum_12 : decode cX2_sum 12 = .ok (.iload_n 3, 1) := by decide +kernel
theorem dX2_sum_13 : decode cX2_sum 13 = .ok (.iload_n 2, 1) := by decide +kernel
theorem dX2_sum_14 : decode cX2_sum 14 = .ok (.ifCond .eq 13, 3) := by decide +kernel
theorem dX2_sum_17 : decode cX2_sum 17 = .ok (.aload_n 0, 1) := by decide +kernel
theorem dX2_sum_18 : decode cX2_sum 18 = .ok (.aload_n 1, 1) := by decide +kernel
theorem dX2_sum_19 : decode cX2_sum 19 = .ok (.iload 4, 2) := by decide +kernel
theorem dX2_sum_21 : decode cX2_sum 21 = .ok (.invokevirtual 87, 3) := by decide +kernel
theorem dX2_sum_24 : decode cX2_sum 24 = .ok (.goto 10, 3) := by decide +kernel
theorem dX2_sum_27 : decode cX2_sum 27 = .ok (.aload_n 0, 1) := by decide +kernel
theorem dX2_sum_28 : decode cX2_sum 28 = .ok (.aload_n 1, 1) := by decide +kernel
theorem dX2_sum_29 : decode cX2_sum 29 = .ok (.iload 4, 2) := by decide +kernel
theorem dX2_sum_31 : decode cX2_sum 31 = .ok (.invokevirtual 78, 3) := by decide +kernel
theorem dX2_sum_34 : decode cX2_sum 34 = .ok (.iadd, 1) := by decide +kernel
theorem dX2_sum_35 : decode cX2_sum 35 = .ok (.istore_n 3, 1) := by decide +kernel
theorem dX2_sum_36 : decode cX2_sum 36 = .ok (.iinc 4 1, 3) := by decide +kernel
theorem dX2_sum_39 : decode cX2_sum 39 = .ok (.goto (-34), 3) := by decide +kernel
theorem dX2_sum_42 : decode cX2_sum 42 = .ok (.iload_n 3, 1) := by decide +kernel
theorem dX2_sum_43 : decode cX2_sum 43 = .ok (.ireturn, 1) := by decide +kernel
theorem dX2_many_0 : decode cX2_many 0 = .ok (.iconst 0, 1) := by decide +kernel
theorem dX2_many_1 : decode cX2_many 1 = .ok (.istore_n 2, 1) := by decide +kernel
theorem dX2_many_2 : decode cX2_many 2 = .ok (.aload_n 0, 1) := by decide +kernel
theorem dX2_many_3 : decode cX2_many 3 = .ok (.astore_n 3, 1) := by decide +kernel
theorem dX2_many_4 : decode cX2_many 4 = .ok (.aload_n 3, 1) := by decide +kernel
theorem dX2_many_5 : decode cX2_many 5 = .ok (.arraylength, 1) := by decide +kernel
theorem dX2_many_6 : decode cX2_many 6 = .ok (.istore 4, 2) := by decide +kernel
theorem dX2_many_8 : decode cX2_many 8 = .ok (.iconst 0, 1) := by decide +kernel
theorem dX2_many_9 : decode cX2_many 9 = .ok (.istore 5, 2) := by decide +kernel
theorem dX2_many_11 : decode cX2_many 11 = .ok (.iload 5, 2) := by decide +kernel
theorem dX2_many_13 : decode cX2_many 13 = .ok (.iload 4, 2) := by decide +kernel
theorem dX2_many_15 : decode cX2_many 15 = .ok (.if_icmp .ge 29, 3) := by decide +kernel
theorem dX2_many_18 : decode cX2_many 18 = .ok (.aload_n 3, 1) := by decide +kernel
theorem dX2_many_19 : decode cX2_many 19 = .ok (.iload 5, 2) := by decide +kernel
theorem dX2_many_21 : decode cX2_many 21 = .ok (.iaload, 1) := by decide +kernel
theorem dX2_many_22 : decode cX2_many 22 = .ok (.istore 6, 2) := by decide +kernel
theorem dX2_many_24 : decode cX2_many 24 = .ok (.iload_n 2, 1) := by decide +kernel
theorem dX2_many_25 : decode cX2_many 25 = .ok (.iload 6, 2) := by decide +kernel
theorem dX2_many_27 : decode cX2_many 27 = .ok (.iload_n 1, 1) := by decide +kernel
theorem dX2_many_28 : decode cX2_many 28 = .ok (.if_icmp .ne 7, 3) := by decide +kernel
theorem dX2_many_31 : decode cX2_many 31 = .ok (.iconst 1, 1) := by decide +kernel
theorem dX2_many_32 : decode cX2_many 32 = .ok (.goto 4, 3) := by decide +kernel
theorem dX2_many_35 : decode cX2_many 35 = .ok (.iconst 0, 1) := by decide +kernel
theorem dX2_many_36 : decode cX2_many 36 = .ok (.iadd, 1) := by decide +kernel
theorem dX2_many_37 : decode cX2_many 37 = .ok (.istore_n 2, 1) := by decide +kernel
theorem dX2_many_38 : decode cX2_many 38 = .ok (.iinc 5 1, 3) := by decide +kernel
theorem dX2_many_41 : decode cX2_many 41 = .ok (.goto (-30), 3) := by decide +kernel
theorem dX2_many_44 : decode cX2_many 44 = .ok (.iload_n 2, 1) := by decide +kernel
theorem dX2_many_45 : decode cX2_many 45 = .ok (.ireturn, 1) := by decide +kernel
theorem dX2_isBuilt_0 : decode cX2_isBuilt 0 = .ok (.aload_n 0, 1) := by decide +kernel
theorem dX2_isBuilt_1 : decode cX2_isBuilt 1 = .ok (.getfield 7, 3) := by decide +kernel
theorem dX2_isBuilt_4 : decode cX2_isBuilt 4 = .ok (.iload_n 3, 1) := by decide +kernel
theorem dX2_isBuilt_5 : decode cX2_isBuilt 5 = .ok (.if_icmp .ge 5, 3) := by decide +kernel
theorem dX2_isBuilt_8 : decode cX2_isBuilt 8 = .ok (.iconst 0, 1) := by decide +kernel
theorem dX2_isBuilt_9 : decode cX2_isBuilt 9 = .ok (.ireturn, 1) := by decide +kernel
theorem dX2_isBuilt_10 : decode cX2_isBuilt 10 = .ok (.aload_n 0, 1) := by decide +kernel
theorem dX2_isBuilt_11 : decode cX2_isBuilt 11 = .ok (.dup, 1) := by decide +kernel
theorem dX2_isBuilt_12 : decode cX2_isBuilt 12 = .ok (.getfield 7, 3) := by decide +kernel
theorem dX2_isBuilt_15 : decode cX2_isBuilt 15 = .ok (.iload_n 3, 1) := by decide +kernel
theorem dX2_isBuilt_16 : decode cX2_isBuilt 16 = .ok (.isub, 1) := by decide +kernel
theorem dX2_isBuilt_17 : decode cX2_isBuilt 17 = .ok (.putfield 7, 3) := by decide +kernel
theorem dX2_isBuilt_20 : decode cX2_isBuilt 20 = .ok (.aload_n 0, 1) := by decide +kernel
theorem dX2_isBuilt_21 : decode cX2_isBuilt 21 = .ok (.getfield 13, 3) := by decide +kernel
theorem dX2_isBuilt_24 : decode cX2_isBuilt 24 = .ok (.iload_n 1, 1) := by decide +kernel
theorem dX2_isBuilt_25 : decode cX2_isBuilt 25 = .ok (.iload_n 2, 1) := by decide +kernel
theorem dX2_isBuilt_26 : decode cX2_isBuilt 26 = .ok (.iastore, 1) := by decide +kernel
theorem dX2_isBuilt_27 : decode cX2_isBuilt 27 = .ok (.iconst 1, 1) := by decide +kernel
theorem dX2_isBuilt_28 : decode cX2_isBuilt 28 = .ok (.ireturn, 1) := by decide +kernel
set_option maxRecDepth 20000 in
theorem ggX2_drain_X2_isPlace : GoodIn wsX2_drain wsX2_isPlace := goodIn_r _ [7, 8, 9, 6, 10] (by decide +kernel) (by decide +kernel)
set_option maxRecDepth 20000 in
theorem gX2_drain_X2_isPlace : GoodIn wsX2_drain (va_wsS RX2 51 yX2_isPlace wsX2_isPlace) := goodIn_app (goodIn_of _ (by decide +kernel)) ggX2_drain_X2_isPlace
set_option maxRecDepth 20000 in
theorem ggX2_drain_X2_no : GoodIn wsX2_drain wsX2_no := goodIn_r _ [14, 1, 19, 20, 21, 22, 23, 24, 25, 26, 27, 28, 29, 30, 31, 32] (by decide +kernel) (by decide +kernel)
set_option maxRecDepth 20000 in
theorem gX2_drain_X2_no : GoodIn wsX2_drain (wsV RX2 90 RX2 yX2_no wsX2_no) := goodIn_app (goodIn_of _ (by decide +kernel)) ggX2_drain_X2_no
set_option maxRecDepth 20000 in
theorem ggX2_drain_X2_isBuilt : GoodIn wsX2_drain wsX2_isBuilt := goodIn_r _ [18, 3, 2, 19, 20, 21, 22, 23, 24, 25, 26, 27, 28, 29, 30, 31, 32] (by decide +kernel) (by decide +kernel)
set_option maxRecDepth 20000 in
theorem gX2_drain_X2_isBuilt : GoodIn wsX2_drain (wsV RX2 94 RX2 yX2_isBuilt wsX2_isBuilt) := goodIn_app (goodIn_of _ (by decide +kernel)) ggX2_drain_X2_isBuilt
theorem dX2_drain_0 : decode cX2_drain 0 = .ok (.aload_n 0, 1) := by decide +kernel
theorem dX2_drain_1 : decode cX2_drain 1 = .ok (.iconst 0, 1) := by decide +kernel
theorem dX2_drain_2 : decode cX2_drain 2 = .ok (.putfield 44, 3) := by decide +kernel
theorem dX2_drain_5 : decode cX2_drain 5 = .ok (.iload_n 1, 1) := by decide +kernel
theorem dX2_drain_6 : decode cX2_drain 6 = .ok (.iload_n 2, 1) := by decide +kernel
theorem dX2_drain_7 : decode cX2_drain 7 = .ok (.invokestatic 51, 3) := by decide +kernel
theorem dX2_drain_10 : decode cX2_drain 10 = .ok (.ifCond .ne 9, 3) := by decide +kernel
theorem dX2_drain_13 : decode cX2_drain 13 = .ok (.aload_n 0, 1) := by decide +kernel
theorem dX2_drain_14 : decode cX2_drain 14 = .ok (.iconst 1, 1) := by decide +kernel
theorem dX2_drain_15 : decode cX2_drain 15 = .ok (.invokevirtual 90, 3) := by decide +kernel
theorem dX2_drain_18 : decode cX2_drain 18 = .ok (.ireturn, 1) := by decide +kernel
theorem dX2_drain_19 : decode cX2_drain 19 = .ok (.aload_n 0, 1) := by decide +kernel
theorem dX2_drain_20 : decode cX2_drain 20 = .ok (.getfield 13, 3) := by decide +kernel
theorem dX2_drain_23 : decode cX2_drain 23 = .ok (.bipush 8, 2) := by decide +kernel
theorem dX2_drain_25 : decode cX2_drain 25 = .ok (.iload_n 2, 1) := by decide +kernel
theorem dX2_drain_26 : decode cX2_drain 26 = .ok (.imul, 1) := by decide +kernel
theorem dX2_drain_27 : decode cX2_drain 27 = .ok (.iload_n 1, 1) := by decide +kernel
theorem dX2_drain_28 : decode cX2_drain 28 = .ok (.iadd, 1) := by decide +kernel
theorem dX2_drain_29 : decode cX2_drain 29 = .ok (.iaload, 1) := by decide +kernel
theorem dX2_drain_30 : decode cX2_drain 30 = .ok (.ifCond .ne 25, 3) := by decide +kernel
theorem dX2_drain_33 : decode cX2_drain 33 = .ok (.aload_n 0, 1) := by decide +kernel
theorem dX2_drain_34 : decode cX2_drain 34 = .ok (.bipush 8, 2) := by decide +kernel
theorem dX2_drain_36 : decode cX2_drain 36 = .ok (.iload_n 2, 1) := by decide +kernel
theorem dX2_drain_37 : decode cX2_drain 37 = .ok (.imul, 1) := by decide +kernel
theorem dX2_drain_38 : decode cX2_drain 38 = .ok (.iload_n 1, 1) := by decide +kernel
theorem dX2_drain_39 : decode cX2_drain 39 = .ok (.iadd, 1) := by decide +kernel
theorem dX2_drain_40 : decode cX2_drain 40 = .ok (.iconst 2, 1) := by decide +kernel
theorem dX2_drain_41 : decode cX2_drain 41 = .ok (.iconst 2, 1) := by decide +kernel
theorem dX2_drain_42 : decode cX2_drain 42 = .ok (.invokevirtual 94, 3) := by decide +kernel
theorem dX2_drain_45 : decode cX2_drain 45 = .ok (.ifCond .eq 10, 3) := by decide +kernel
theorem dX2_drain_48 : decode cX2_drain 48 = .ok (.aload_n 0, 1) := by decide +kernel
theorem dX2_drain_49 : decode cX2_drain 49 = .ok (.getfield 7, 3) := by decide +kernel
theorem dX2_drain_52 : decode cX2_drain 52 = .ok (.goto 8, 3) := by decide +kernel
theorem dX2_drain_55 : decode cX2_drain 55 = .ok (.aload_n 0, 1) := by decide +kernel
theorem dX2_drain_56 : decode cX2_drain 56 = .ok (.iconst 2, 1) := by decide +kernel
theorem dX2_drain_57 : decode cX2_drain 57 = .ok (.invokevirtual 90, 3) := by decide +kernel
theorem dX2_drain_60 : decode cX2_drain 60 = .ok (.ireturn, 1) := by decide +kernel
set_option maxRecDepth 20000 in
theorem ggX2_dig_X2_isPlace : GoodIn wsX2_dig wsX2_isPlace := goodIn_r _ [7, 8, 9, 6, 10] (by decide +kernel) (by decide +kernel)
set_option maxRecDepth 20000 in
theorem gX2_dig_X2_isPlace : GoodIn wsX2_dig (va_wsS RX2 51 yX2_isPlace wsX2_isPlace) := goodIn_app (goodIn_of _ (by decide +kernel)) ggX2_dig_X2_isPlace
set_option maxRecDepth 20000 in
theorem ggX2_dig_X2_no : GoodIn wsX2_dig wsX2_no := goodIn_r _ [14, 1, 19, 20, 21, 22, 23, 24, 25, 26, 27, 28, 29, 30, 31, 32] (by decide +kernel) (by decide +kernel)
set_option maxRecDepth 20000 in
theorem gX2_dig_X2_no : GoodIn wsX2_dig (wsV RX2 90 RX2 yX2_no wsX2_no) := goodIn_app (goodIn_of _ (by decide +kernel)) ggX2_dig_X2_no
set_option maxRecDepth 20000 in
theorem ggX2_dig_X2_isBuilt : GoodIn wsX2_dig wsX2_isBuilt := goodIn_r _ [18, 3, 2, 19, 20, 21, 22, 23, 24, 25, 26, 27, 28, 29, 30, 31, 32] (by decide +kernel) (by decide +kernel)
set_option maxRecDepth 20000 in
theorem gX2_dig_X2_isBuilt : GoodIn wsX2_dig (wsV RX2 94 RX2 yX2_isBuilt wsX2_isBuilt) := goodIn_app (goodIn_of _ (by decide +kernel)) ggX2_dig_X2_isBuilt
theorem dX2_dig_0 : decode cX2_dig 0 = .ok (.aload_n 0, 1) := by decide +kernel
theorem dX2_dig_1 : decode cX2_dig 1 = .ok (.iconst 0, 1) := by decide +kernel
theorem dX2_dig_2 : decode cX2_dig 2 = .ok (.putfield 44, 3) := by decide +kernel
theorem dX2_dig_5 : decode cX2_dig 5 = .ok (.iload_n 1, 1) := by decide +kernel
theorem dX2_dig_6 : decode cX2_dig 6 = .ok (.iload_n 2, 1) := by decide +kernel
theorem dX2_dig_7 : decode cX2_dig 7 = .ok (.invokestatic 51, 3) := by decide +kernel
theorem dX2_dig_10 : decode cX2_dig 10 = .ok (.ifCond .ne 9, 3) := by decide +kernel
theorem dX2_dig_13 : decode cX2_dig 13 = .ok (.aload_n 0, 1) := by decide +kernel
theorem dX2_dig_14 : decode cX2_dig 14 = .ok (.iconst 1, 1) := by decide +kernel
theorem dX2_dig_15 : decode cX2_dig 15 = .ok (.invokevirtual 90, 3) := by decide +kernel
theorem dX2_dig_18 : decode cX2_dig 18 = .ok (.ireturn, 1) := by decide +kernel
theorem dX2_dig_19 : decode cX2_dig 19 = .ok (.aload_n 0, 1) := by decide +kernel
theorem dX2_dig_20 : decode cX2_dig 20 = .ok (.getfield 13, 3) := by decide +kernel
theorem dX2_dig_23 : decode cX2_dig 23 = .ok (.bipush 8, 2) := by decide +kernel
theorem dX2_dig_25 : decode cX2_dig 25 = .ok (.iload_n 2, 1) := by decide +kernel
theorem dX2_dig_26 : decode cX2_dig 26 = .ok (.imul, 1) := by decide +kernel
theorem dX2_dig_27 : decode cX2_dig 27 = .ok (.iload_n 1, 1) := by decide +kernel
theorem dX2_dig_28 : decode cX2_dig 28 = .ok (.iadd, 1) := by decide +kernel
theorem dX2_dig_29 : decode cX2_dig 29 = .ok (.iaload, 1) := by decide +kernel
theorem dX2_dig_30 : decode cX2_dig 30 = .ok (.istore_n 3, 1) := by decide +kernel
theorem dX2_dig_31 : decode cX2_dig 31 = .ok (.iload_n 3, 1) := by decide +kernel
theorem dX2_dig_32 : decode cX2_dig 32 = .ok (.ifCond .eq 8, 3) := by decide +kernel
theorem dX2_dig_35 : decode cX2_dig 35 = .ok (.iload_n 3, 1) := by decide +kernel
theorem dX2_dig_36 : decode cX2_dig 36 = .ok (.iconst 2, 1) := by decide +kernel
theorem dX2_dig_37 : decode cX2_dig 37 = .ok (.if_icmp .ne 25, 3) := by decide +kernel
theorem dX2_dig_40 : decode cX2_dig 40 = .ok (.aload_n 0, 1) := by decide +kernel
theorem dX2_dig_41 : decode cX2_dig 41 = .ok (.bipush 8, 2) := by decide +kernel
theorem dX2_dig_43 : decode cX2_dig 43 = .ok (.iload_n 2, 1) := by decide +kernel
theorem dX2_dig_44 : decode cX2_dig 44 = .ok (.imul, 1) := by decide +kernel
theorem dX2_dig_45 : decode cX2_dig 45 = .ok (.iload_n 1, 1) := by decide +kernel
theorem dX2_dig_46 : decode cX2_dig 46 = .ok (.iadd, 1) := by decide +kernel
theorem dX2_dig_47 : decode cX2_dig 47 = .ok (.iconst 1, 1) := by decide +kernel
theorem dX2_dig_48 : decode cX2_dig 48 = .ok (.iconst 3, 1) := by decide +kernel
theorem dX2_dig_49 : decode cX2_dig 49 = .ok (.invokevirtual 94, 3) := by decide +kernel
theorem dX2_dig_52 : decode cX2_dig 52 = .ok (.ifCond .eq 10, 3) := by decide +kernel
theorem dX2_dig_55 : decode cX2_dig 55 = .ok (.aload_n 0, 1) := by decide +kernel
theorem dX2_dig_56 : decode cX2_dig 56 = .ok (.getfield 7, 3) := by decide +kernel
theorem dX2_dig_59 : decode cX2_dig 59 = .ok (.goto 8, 3) := by decide +kernel
theorem dX2_dig_62 : decode cX2_dig 62 = .ok (.aload_n 0, 1) := by decide +kernel
theorem dX2_dig_63 : decode cX2_dig 63 = .ok (.iconst 2, 1) := by decide +kernel
theorem dX2_dig_64 : decode cX2_dig 64 = .ok (.invokevirtual 90, 3) := by decide +kernel
theorem dX2_dig_67 : decode cX2_dig 67 = .ok (.ireturn, 1) := by decide +kernel
set_option maxRecDepth 20000 in
theorem ggX2_build_X2_isPlace : GoodIn wsX2_build wsX2_isPlace := goodIn_r _ [8, 9, 10, 7, 11] (by decide +kernel) (by decide +kernel)
set_option maxRecDepth 20000 in
theorem gX2_build_X2_isPlace : GoodIn wsX2_build (va_wsS RX2 51 yX2_isPlace wsX2_isPlace) := goodIn_app (goodIn_of _ (by decide +kernel)) ggX2_build_X2_isPlace
set_option maxRecDepth 20000 in
theorem ggX2_build_X2_no : GoodIn wsX2_build wsX2_no := goodIn_r _ [15, 1, 20, 21, 22, 23, 24, 25, 26, 27, 28, 29, 30, 31, 32, 33] (by decide +kernel) (by decide +kernel)
set_option maxRecDepth 20000 in
theorem gX2_build_X2_no : GoodIn wsX2_build (wsV RX2 90 RX2 yX2_no wsX2_no) := goodIn_app (goodIn_of _ (by decide +kernel)) ggX2_build_X2_no
set_option maxRecDepth 20000 in
theorem ggX2_build_X2_isIn : GoodIn wsX2_build wsX2_isIn := goodIn_r _ [11] (by decide +kernel) (by decide +kernel)
set_option maxRecDepth 20000 in
theorem gX2_build_X2_isIn : GoodIn wsX2_build (va_wsS RX2 47 yX2_isIn wsX2_isIn) := goodIn_app (goodIn_of _ (by decide +kernel)) ggX2_build_X2_isIn
set_option maxRecDepth 20000 in
theorem ggX2_build_X2_isBuilt : GoodIn wsX2_build wsX2_isBuilt := goodIn_r _ [19, 4, 2, 20, 21, 22, 23, 24, 25, 26, 27, 28, 29, 30, 31, 32, 33] (by decide +kernel) (by decide +kernel)
set_option maxRecDepth 20000 in
theorem gX2_build_X2_isBuilt : GoodIn wsX2_build (wsV RX2 94 RX2 yX2_isBuilt wsX2_isBuilt) := goodIn_app (goodIn_of _ (by decide +kernel)) ggX2_build_X2_isBuilt
theorem dX2_build_0 : decode cX2_build 0 = .ok (.aload_n 0, 1) := by decide +kernel
theorem dX2_build_1 : decode cX2_build 1 = .ok (.iconst 0, 1) := by decide +kernel
theorem dX2_build_2 : decode cX2_build 2 = .ok (.putfield 44, 3) := by decide +kernel
theorem dX2_build_5 : decode cX2_build 5 = .ok (.iload_n 1, 1) := by decide +kernel
theorem dX2_build_6 : decode cX2_build 6 = .ok (.iload_n 2, 1) := by decide +kernel
theorem dX2_build_7 : decode cX2_build 7 = .ok (.invokestatic 51, 3) := by decide +kernel
theorem dX2_build_10 : decode cX2_build 10 = .ok (.ifCond .ne 9, 3) := by decide +kernel
theorem dX2_build_13 : decode cX2_build 13 = .ok (.aload_n 0, 1) := by decide +kernel
theorem dX2_build_14 : decode cX2_build 14 = .ok (.iconst 1, 1) := by decide +kernel
theorem dX2_build_15 : decode cX2_build 15 = .ok (.invokevirtual 90, 3) := by decide +kernel
theorem dX2_build_18 : decode cX2_build 18 = .ok (.ireturn, 1) := by decide +kernel
theorem dX2_build_19 : decode cX2_build 19 = .ok (.iload_n 3, 1) := by decide +kernel
theorem dX2_build_20 : decode cX2_build 20 = .ok (.iconst 3, 1) := by decide +kernel
theorem dX2_build_21 : decode cX2_build 21 = .ok (.iconst 5, 1) := by decide +kernel
theorem dX2_build_22 : decode cX2_build 22 = .ok (.invokestatic 47, 3) := by decide +kernel
theorem dX2_build_25 : decode cX2_build 25 = .ok (.ifCond .ne 9, 3) := by decide +kernel
theorem dX2_build_28 : decode cX2_build 28 = .ok (.aload_n 0, 1) := by decide +kernel
theorem dX2_build_29 : decode cX2_build 29 = .ok (.iconst 2, 1) := by decide +kernel
theorem dX2_build_30 : decode cX2_build 30 = .ok (.invokevirtual 90, 3) := by decide +kernel
theorem dX2_build_33 : decode cX2_build 33 = .ok (.ireturn, 1) := by decide +kernel
theorem dX2_build_34 : decode cX2_build 34 = .ok (.aload_n 0, 1) := by decide +kernel
theorem dX2_build_35 : decode cX2_build 35 = .ok (.getfield 13, 3) := by decide +kernel
theorem dX2_build_38 : decode cX2_build 38 = .ok (.bipush 8, 2) := by decide +kernel
theorem dX2_build_40 : decode cX2_build 40 = .ok (.iload_n 2, 1) := by decide +kernel
theorem dX2_build_41 : decode cX2_build 41 = .ok (.imul, 1) := by decide +kernel
theorem dX2_build_42 : decode cX2_build 42 = .ok (.iload_n 1, 1) := by decide +kernel
theorem dX2_build_43 : decode cX2_build 43 = .ok (.iadd, 1) := by decide +kernel
theorem dX2_build_44 : decode cX2_build 44 = .ok (.iaload, 1) := by decide +kernel
theorem dX2_build_45 : decode cX2_build 45 = .ok (.iconst 2, 1) := by decide +kernel
theorem dX2_build_46 : decode cX2_build 46 = .ok (.if_icmp .ne 29, 3) := by decide +kernel
theorem dX2_build_49 : decode cX2_build 49 = .ok (.aload_n 0, 1) := by decide +kernel
theorem dX2_build_50 : decode cX2_build 50 = .ok (.bipush 8, 2) := by decide +kernel
theorem dX2_build_52 : decode cX2_build 52 = .ok (.iload_n 2, 1) := by decide +kernel
theorem dX2_build_53 : decode cX2_build 53 = .ok (.imul, 1) := by decide +kernel
theorem dX2_build_54 : decode cX2_build 54 = .ok (.iload_n 1, 1) := by decide +kernel
theorem dX2_build_55 : decode cX2_build 55 = .ok (.iadd, 1) := by decide +kernel
theorem dX2_build_56 : decode cX2_build 56 = .ok (.iload_n 3, 1) := by decide +kernel
theorem dX2_build_57 : decode cX2_build 57 = .ok (.getstatic 97, 3) := by decide +kernel
theorem dX2_build_60 : decode cX2_build 60 = .ok (.iload_n 3, 1) := by decide +kernel
theorem dX2_build_61 : decode cX2_build 61 = .ok (.iaload, 1) := by decide +kernel
theorem dX2_build_62 : decode cX2_build 62 = .ok (.invokevirtual 94, 3) := by decide +kernel
theorem dX2_build_65 : decode cX2_build 65 = .ok (.ifCond .eq 10, 3) := by decide +kernel
theorem dX2_build_68 : decode cX2_build 68 = .ok (.aload_n 0, 1) := by decide +kernel
theorem dX2_build_69 : decode cX2_build 69 = .ok (.getfield 7, 3) := by decide +kernel
theorem dX2_build_72 : decode cX2_build 72 = .ok (.goto 8, 3) := by decide +kernel
theorem dX2_build_75 : decode cX2_build 75 = .ok (.aload_n 0, 1) := by decide +kernel
theorem dX2_build_76 : decode cX2_build 76 = .ok (.iconst 3, 1) := by decide +kernel
theorem dX2_build_77 : decode cX2_build 77 = .ok (.invokevirtual 90, 3) := by decide +kernel
theorem dX2_build_80 : decode cX2_build 80 = .ok (.ireturn, 1) := by decide +kernel
set_option maxRecDepth 20000 in
theorem ggX2_bridge_X2_isPlace : GoodIn wsX2_bridge wsX2_isPlace := goodIn_r _ [7, 8, 9, 6, 10] (by decide +kernel) (by decide +kernel)
set_option maxRecDepth 20000 in
theorem gX2_bridge_X2_isPlace : GoodIn wsX2_bridge (va_wsS RX2 51 yX2_isPlace wsX2_isPlace) := goodIn_app (goodIn_of _ (by decide +kernel)) ggX2_bridge_X2_isPlace
set_option maxRecDepth 20000 in
theorem ggX2_bridge_X2_no : GoodIn wsX2_bridge wsX2_no := goodIn_r _ [14, 1, 35, 36, 37, 38, 39, 40, 41, 42, 43, 44, 45, 46, 47, 48] (by decide +kernel) (by decide +kernel)
set_option maxRecDepth 20000 in
theorem gX2_bridge_X2_no : GoodIn wsX2_bridge (wsV RX2 90 RX2 yX2_no wsX2_no) := goodIn_app (goodIn_of _ (by decide +kernel)) ggX2_bridge_X2_no
set_option maxRecDepth 20000 in
theorem ggX2_bridge_X2_isBuilt : GoodIn wsX2_bridge wsX2_isBuilt := goodIn_r _ [18, 19, 2, 35, 36, 37, 38, 39, 40, 41, 42, 43, 44, 45, 46, 47, 48] (by decide +kernel) (by decide +kernel)
set_option maxRecDepth 20000 in
theorem gX2_bridge_X2_isBuilt : GoodIn wsX2_bridge (wsV RX2 94 RX2 yX2_isBuilt wsX2_isBuilt) := goodIn_app (goodIn_of _ (by decide +kernel)) ggX2_bridge_X2_isBuilt
set_option maxRecDepth 20000 in
theorem ggX2_bridge_X2_fill : GoodIn wsX2_bridge wsX2_fill := goodIn_r _ [23, 24, 25, 26, 27, 6, 28, 4, 5, 7, 8, 9, 10, 29, 30, 31, 32, 33, 34, 35, 36, 37, 38, 39, 40, 41, 42, 43, 44, 45, 46, 47, 48] (by decide +kernel) (by decide +kernel)
set_option maxRecDepth 20000 in
theorem gX2_bridge_X2_fill : GoodIn wsX2_bridge (wsV RX2 66 RX2 yX2_fill wsX2_fill) := goodIn_app (goodIn_of _ (by decide +kernel)) ggX2_bridge_X2_fill
theorem dX2_bridge_0 : decode cX2_bridge 0 = .ok (.aload_n 0, 1) := by decide +kernel
theorem dX2_bridge_1 : decode cX2_bridge 1 = .ok (.iconst 0, 1) := by decide +kernel
theorem dX2_bridge_2 : decode cX2_bridge 2 = .ok (.putfield 44, 3) := by decide +kernel
theorem dX2_bridge_5 : decode cX2_bridge 5 = .ok (.iload_n 1, 1) := by decide +kernel
theorem dX2_bridge_6 : decode cX2_bridge 6 = .ok (.iload_n 2, 1) := by decide +kernel
theorem dX2_bridge_7 : decode cX2_bridge 7 = .ok (.invokestatic 51, 3) := by decide +kernel
theorem dX2_bridge_10 : decode cX2_bridge 10 = .ok (.ifCond .ne 9, 3) := by decide +kernel
theorem dX2_bridge_13 : decode cX2_bridge 13 = .ok (.aload_n 0, 1) := by decide +kernel
theorem dX2_bridge_14 : decode cX2_bridge 14 = .ok (.iconst 1, 1) := by decide +kernel
theorem dX2_bridge_15 : decode cX2_bridge 15 = .ok (.invokevirtual 90, 3) := by decide +kernel
theorem dX2_bridge_18 : decode cX2_bridge 18 = .ok (.ireturn, 1) := by decide +kernel
theorem dX2_bridge_19 : decode cX2_bridge 19 = .ok (.bipush 8, 2) := by decide +kernel
theorem dX2_bridge_21 : decode cX2_bridge 21 = .ok (.iload_n 2, 1) := by decide +kernel
theorem dX2_bridge_22 : decode cX2_bridge 22 = .ok (.imul, 1) := by decide +kernel
theorem dX2_bridge_23 : decode cX2_bridge 23 = .ok (.iload_n 1, 1) := by decide +kernel
theorem dX2_bridge_24 : decode cX2_bridge 24 = .ok (.iadd, 1) := by decide +kernel
theorem dX2_bridge_25 : decode cX2_bridge 25 = .ok (.istore_n 3, 1) := by decide +kernel
theorem dX2_bridge_26 : decode cX2_bridge 26 = .ok (.aload_n 0, 1) := by decide +kernel
theorem dX2_bridge_27 : decode cX2_bridge 27 = .ok (.getfield 13, 3) := by decide +kernel
theorem dX2_bridge_30 : decode cX2_bridge 30 = .ok (.iload_n 3, 1) := by decide +kernel
theorem dX2_bridge_31 : decode cX2_bridge 31 = .ok (.iaload, 1) := by decide +kernel
theorem dX2_bridge_32 : decode cX2_bridge 32 = .ok (.iconst 1, 1) := by decide +kernel
theorem dX2_bridge_33 : decode cX2_bridge 33 = .ok (.if_icmp .ne 32, 3) := by decide +kernel
theorem dX2_bridge_36 : decode cX2_bridge 36 = .ok (.aload_n 0, 1) := by decide +kernel
theorem dX2_bridge_37 : decode cX2_bridge 37 = .ok (.iload_n 3, 1) := by decide +kernel
theorem dX2_bridge_38 : decode cX2_bridge 38 = .ok (.bipush 6, 2) := by decide +kernel
theorem dX2_bridge_40 : decode cX2_bridge 40 = .ok (.getstatic 97, 3) := by decide +kernel
theorem dX2_bridge_43 : decode cX2_bridge 43 = .ok (.bipush 6, 2) := by decide +kernel
theorem dX2_bridge_45 : decode cX2_bridge 45 = .ok (.iaload, 1) := by decide +kernel
theorem dX2_bridge_46 : decode cX2_bridge 46 = .ok (.invokevirtual 94, 3) := by decide +kernel
theorem dX2_bridge_49 : decode cX2_bridge 49 = .ok (.ifCond .eq 16, 3) := by decide +kernel
theorem dX2_bridge_52 : decode cX2_bridge 52 = .ok (.aload_n 0, 1) := by decide +kernel
theorem dX2_bridge_53 : decode cX2_bridge 53 = .ok (.aload_n 0, 1) := by decide +kernel
theorem dX2_bridge_54 : decode cX2_bridge 54 = .ok (.getfield 13, 3) := by decide +kernel
theorem dX2_bridge_57 : decode cX2_bridge 57 = .ok (.iload_n 3, 1) := by decide +kernel
theorem dX2_bridge_58 : decode cX2_bridge 58 = .ok (.iconst 1, 1) := by decide +kernel
theorem dX2_bridge_59 : decode cX2_bridge 59 = .ok (.invokevirtual 66, 3) := by decide +kernel
theorem dX2_bridge_62 : decode cX2_bridge 62 = .ok (.goto 8, 3) := by decide +kernel
theorem dX2_bridge_65 : decode cX2_bridge 65 = .ok (.aload_n 0, 1) := by decide +kernel
theorem dX2_bridge_66 : decode cX2_bridge 66 = .ok (.iconst 2, 1) := by decide +kernel
theorem dX2_bridge_67 : decode cX2_bridge 67 = .ok (.invokevirtual 90, 3) := by decide +kernel
theorem dX2_bridge_70 : decode cX2_bridge 70 = .ok (.ireturn, 1) := by decide +kernel
set_option maxRecDepth 20000 in
theorem ggX2_raze_X2_isPlace : GoodIn wsX2_raze wsX2_isPlace := goodIn_r _ [6, 7, 8, 5, 9] (by decide +kernel) (by decide +kernel)
set_option maxRecDepth 20000 in
theorem gX2_raze_X2_isPlace : GoodIn wsX2_raze (va_wsS RX2 51 yX2_isPlace wsX2_isPlace) := goodIn_app (goodIn_of _ (by decide +kernel)) ggX2_raze_X2_isPlace
set_option maxRecDepth 20000 in
theorem ggX2_raze_X2_no : GoodIn wsX2_raze wsX2_no := goodIn_r _ [13, 1, 14, 15, 16, 17, 18, 19, 20, 21, 22, 23, 24, 25, 26, 27] (by decide +kernel) (by decide +kernel)
set_option maxRecDepth 20000 in
theorem gX2_raze_X2_no : GoodIn wsX2_raze (wsV RX2 90 RX2 yX2_no wsX2_no) := goodIn_app (goodIn_of _ (by decide +kernel)) ggX2_raze_X2_no
set_option maxRecDepth 20000 in
theorem ggX2_raze_X2_isIn : GoodIn wsX2_raze wsX2_isIn := goodIn_r _ [9] (by decide +kernel) (by decide +kernel)
set_option maxRecDepth 20000 in
theorem gX2_raze_X2_isIn : GoodIn wsX2_raze (va_wsS RX2 47 yX2_isIn wsX2_isIn) := goodIn_app (goodIn_of _ (by decide +kernel)) ggX2_raze_X2_isIn
theorem dX2_raze_0 : decode cX2_raze 0 = .ok (.aload_n 0, 1) := by decide +kernel
theorem dX2_raze_1 : decode cX2_raze 1 = .ok (.iconst 0, 1) := by decide +kernel
theorem dX2_raze_2 : decode cX2_raze 2 = .ok (.putfield 44, 3) := by decide +kernel
theorem dX2_raze_5 : decode cX2_raze 5 = .ok (.iload_n 1, 1) := by decide +kernel
theorem dX2_raze_6 : decode cX2_raze 6 = .ok (.iload_n 2, 1) := by decide +kernel
theorem dX2_raze_7 : decode cX2_raze 7 = .ok (.invokestatic 51, 3) := by decide +kernel
theorem dX2_raze_10 : decode cX2_raze 10 = .ok (.ifCond .ne 9, 3) := by decide +kernel
theorem dX2_raze_13 : decode cX2_raze 13 = .ok (.aload_n 0, 1) := by decide +kernel
theorem dX2_raze_14 : decode cX2_raze 14 = .ok (.iconst 1, 1) := by decide +kernel
theorem dX2_raze_15 : decode cX2_raze 15 = .ok (.invokevirtual 90, 3) := by decide +kernel
theorem dX2_raze_18 : decode cX2_raze 18 = .ok (.ireturn, 1) := by decide +kernel
theorem dX2_raze_19 : decode cX2_raze 19 = .ok (.aload_n 0, 1) := by decide +kernel
theorem dX2_raze_20 : decode cX2_raze 20 = .ok (.getfield 13, 3) := by decide +kernel
theorem dX2_raze_23 : decode cX2_raze 23 = .ok (.bipush 8, 2) := by decide +kernel
theorem dX2_raze_25 : decode cX2_raze 25 = .ok (.iload_n 2, 1) := by decide +kernel
theorem dX2_raze_26 : decode cX2_raze 26 = .ok (.imul, 1) := by decide +kernel
theorem dX2_raze_27 : decode cX2_raze 27 = .ok (.iload_n 1, 1) := by decide +kernel
theorem dX2_raze_28 : decode cX2_raze 28 = .ok (.iadd, 1) := by decide +kernel
theorem dX2_raze_29 : decode cX2_raze 29 = .ok (.iaload, 1) := by decide +kernel
theorem dX2_raze_30 : decode cX2_raze 30 = .ok (.istore_n 3, 1) := by decide +kernel
theorem dX2_raze_31 : decode cX2_raze 31 = .ok (.iload_n 3, 1) := by decide +kernel
theorem dX2_raze_32 : decode cX2_raze 32 = .ok (.iconst 3, 1) := by decide +kernel
theorem dX2_raze_33 : decode cX2_raze 33 = .ok (.bipush 6, 2) := by decide +kernel
theorem dX2_raze_35 : decode cX2_raze 35 = .ok (.invokestatic 47, 3) := by decide +kernel
theorem dX2_raze_38 : decode cX2_raze 38 = .ok (.ifCond .ne 9, 3) := by decide +kernel
theorem dX2_raze_41 : decode cX2_raze 41 = .ok (.aload_n 0, 1) := by decide +kernel
theorem dX2_raze_42 : decode cX2_raze 42 = .ok (.iconst 2, 1) := by decide +kernel
theorem dX2_raze_43 : decode cX2_raze 43 = .ok (.invokevirtual 90, 3) := by decide +kernel
theorem dX2_raze_46 : decode cX2_raze 46 = .ok (.ireturn, 1) := by decide +kernel
theorem dX2_raze_47 : decode cX2_raze 47 = .ok (.aload_n 0, 1) := by decide +kernel
theorem dX2_raze_48 : decode cX2_raze 48 = .ok (.getfield 13, 3) := by decide +kernel
theorem dX2_raze_51 : decode cX2_raze 51 = .ok (.bipush 8, 2) := by decide +kernel
theorem dX2_raze_53 : decode cX2_raze 53 = .ok (.iload_n 2, 1) := by decide +kernel
theorem dX2_raze_54 : decode cX2_raze 54 = .ok (.imul, 1) := by decide +kernel
theorem dX2_raze_55 : decode cX2_raze 55 = .ok (.iload_n 1, 1) := by decide +kernel
theorem dX2_raze_56 : decode cX2_raze 56 = .ok (.iadd, 1) := by decide +kernel
theorem dX2_raze_57 : decode cX2_raze 57 = .ok (.iload_n 3, 1) := by decide +kernel
theorem dX2_raze_58 : decode cX2_raze 58 = .ok (.bipush 6, 2) := by decide +kernel
theorem dX2_raze_60 : decode cX2_raze 60 = .ok (.if_icmp .ne 7, 3) := by decide +kernel
theorem dX2_raze_63 : decode cX2_raze 63 = .ok (.iconst 1, 1) := by decide +kernel
theorem dX2_raze_64 : decode cX2_raze 64 = .ok (.goto 4, 3) := by decide +kernel
theorem dX2_raze_67 : decode cX2_raze 67 = .ok (.iconst 2, 1) := by decide +kernel
theorem dX2_raze_68 : decode cX2_raze 68 = .ok (.iastore, 1) := by decide +kernel
theorem dX2_raze_69 : decode cX2_raze 69 = .ok (.iload_n 3, 1) := by decide +kernel
theorem dX2_raze_70 : decode cX2_raze 70 = .ok (.ireturn, 1) := by decide +kernel
set_option maxRecDepth 20000 in
theorem ggX2_lotTold_X2_isLand : GoodIn wsX2_lotTold wsX2_isLand := goodIn_r _ [8] (by decide +kernel) (by decide +kernel)
set_option maxRecDepth 20000 in
theorem gX2_lotTold_X2_isLand : GoodIn wsX2_lotTold (va_wsS RX2 59 yX2_isLand wsX2_isLand) := goodIn_app (goodIn_of _ (by decide +kernel)) ggX2_lotTold_X2_isLand
set_option maxRecDepth 20000 in
theorem ggX2_lotTold_X2_isByBoat : GoodIn wsX2_lotTold wsX2_isByBoat := goodIn_r _ [12, 4, 5, 6, 7, 8, 13, 14, 15, 16, 17, 18, 19, 20, 21, 39, 40, 41, 42, 43, 44, 45, 46, 47, 48, 49, 50, 51, 52] (by decide +kernel) (by decide +kernel)
set_option maxRecDepth 20000 in
theorem gX2_lotTold_X2_isByBoat : GoodIn wsX2_lotTold (wsV RX2 74 RX2 yX2_isByBoat wsX2_isByBoat) := goodIn_app (goodIn_of _ (by decide +kernel)) ggX2_lotTold_X2_isByBoat
set_option maxRecDepth 20000 in
theorem ggX2_lotTold_X2_complaints : GoodIn wsX2_lotTold wsX2_complaints := goodIn_r _ [25, 26, 2, 27, 28, 7, 29, 13, 14, 15, 16, 17, 18, 19, 20, 21, 9, 10, 11, 12, 4, 5, 6, 8, 39, 40, 41, 42, 43, 44, 45, 46, 47, 48, 49, 50, 51, 52] (by decide +kernel) (by decide +kernel)
set_option maxRecDepth 20000 in
theorem gX2_lotTold_X2_complaints : GoodIn wsX2_lotTold (wsV RX2 78 RX2 yX2_complaints wsX2_complaints) := goodIn_app (goodIn_of _ (by decide +kernel)) ggX2_lotTold_X2_complaints
set_option maxRecDepth 20000 in
theorem ggX2_lotTold_X2_dues : GoodIn wsX2_lotTold wsX2_dues := goodIn_r _ [33, 34, 35, 36, 37, 38, 2, 22, 23, 24, 7, 25, 26, 27, 28, 29, 13, 14, 15, 16, 17, 18, 19, 20, 21, 9, 10, 11, 12, 4, 5, 6, 8, 39, 40, 41, 42, 43, 44, 45, 46, 47, 48, 49, 50, 51, 52] (by decide +kernel) (by decide +kernel)
set_option maxRecDepth 20000 in
theorem gX2_lotTold_X2_dues : GoodIn wsX2_lotTold (wsV RX2 87 RX2 yX2_dues wsX2_dues) := goodIn_app (goodIn_of _ (by decide +kernel)) ggX2_lotTold_X2_dues
theorem dX2_lotTold_0 : decode cX2_lotTold 0 = .ok (.aload_n 0, 1) := by decide +kernel
theorem dX2_lotTold_1 : decode cX2_lotTold 1 = .ok (.getfield 13, 3) := by decide +kernel
theorem dX2_lotTold_4 : decode cX2_lotTold 4 = .ok (.iload_n 1, 1) := by decide +kernel
theorem dX2_lotTold_5 : decode cX2_lotTold 5 = .ok (.iaload, 1) := by decide +kernel
theorem dX2_lotTold_6 : decode cX2_lotTold 6 = .ok (.invokestatic 59, 3) := by decide +kernel
theorem dX2_lotTold_9 : decode cX2_lotTold 9 = .ok (.istore_n 3, 1) := by decide +kernel
theorem dX2_lotTold_10 : decode cX2_lotTold 10 = .ok (.iload_n 2, 1) := by decide +kernel
theorem dX2_lotTold_11 : decode cX2_lotTold 11 = .ok (.tableswitch 105 0 4 #[33, 40, 47, 67, 95], 33) := by decide +kernel
theorem dX2_lotTold_44 : decode cX2_lotTold 44 = .ok (.aload_n 0, 1) := by decide +kernel
theorem dX2_lotTold_45 : decode cX2_lotTold 45 = .ok (.getfield 13, 3) := by decide +kernel
theorem dX2_lotTold_48 : decode cX2_lotTold 48 = .ok (.iload_n 1, 1) := by decide +kernel
theorem dX2_lotTold_49 : decode cX2_lotTold 49 = .ok (.iaload, 1) := by decide +kernel
theorem dX2_lotTold_50 : decode cX2_lotTold 50 = .ok (.ireturn, 1) := by decide +kernel
theorem dX2_lotTold_51 : decode cX2_lotTold 51 = .ok (.aload_n 0, 1) := by decide +kernel
theorem dX2_lotTold_52 : decode cX2_lotTold 52 = .ok (.getfield 23, 3) := by decide +kernel
theorem dX2_lotTold_55 : decode cX2_lotTold 55 = .ok (.iload_n 1, 1) := by decide +kernel
theorem dX2_lotTold_56 : decode cX2_lotTold 56 = .ok (.iaload, 1) := by decide +kernel
theorem dX2_lotTold_57 : decode cX2_lotTold 57 = .ok (.ireturn, 1) := by decide +kernel
theorem dX2_lotTold_58 : decode cX2_lotTold 58 = .ok (.iload_n 3, 1) := by decide +kernel
theorem dX2_lotTold_59 : decode cX2_lotTold 59 = .ok (.ifCond .eq 17, 3) := by decide +kernel
theorem dX2_lotTold_62 : decode cX2_lotTold 62 = .ok (.aload_n 0, 1) := by decide +kernel
theorem dX2_lotTold_63 : decode cX2_lotTold 63 = .ok (.getfield 29, 3) := by decide +kernel
theorem dX2_lotTold_66 : decode cX2_lotTold 66 = .ok (.aload_n 0, 1) := by decide +kernel
theorem dX2_lotTold_67 : decode cX2_lotTold 67 = .ok (.getfield 23, 3) := by decide +kernel
theorem dX2_lotTold_70 : decode cX2_lotTold 70 = .ok (.iload_n 1, 1) := by decide +kernel
theorem dX2_lotTold_71 : decode cX2_lotTold 71 = .ok (.iaload, 1) := by decide +kernel
theorem dX2_lotTold_72 : decode cX2_lotTold 72 = .ok (.iaload, 1) := by decide +kernel
theorem dX2_lotTold_73 : decode cX2_lotTold 73 = .ok (.goto 4, 3) := by decide +kernel
theorem dX2_lotTold_76 : decode cX2_lotTold 76 = .ok (.iconst 0, 1) := by decide +kernel
theorem dX2_lotTold_77 : decode cX2_lotTold 77 = .ok (.ireturn, 1) := by decide +kernel
theorem dX2_lotTold_78 : decode cX2_lotTold 78 = .ok (.aload_n 0, 1) := by decide +kernel
theorem dX2_lotTold_79 : decode cX2_lotTold 79 = .ok (.getfield 26, 3) := by decide +kernel
theorem dX2_lotTold_82 : decode cX2_lotTold 82 = .ok (.iload_n 1, 1) := by decide +kernel
theorem dX2_lotTold_83 : decode cX2_lotTold 83 = .ok (.iaload, 1) := by decide +kernel
theorem dX2_lotTold_84 : decode cX2_lotTold 84 = .ok (.iconst 1, 1) := by decide +kernel
theorem dX2_lotTold_85 : decode cX2_lotTold 85 = .ok (.if_icmp .eq 15, 3) := by decide +kernel
theorem dX2_lotTold_88 : decode cX2_lotTold 88 = .ok (.aload_n 0, 1) := by decide +kernel
theorem dX2_lotTold_89 : decode cX2_lotTold 89 = .ok (.aload_n 0, 1) := by decide +kernel
theorem dX2_lotTold_90 : decode cX2_lotTold 90 = .ok (.getfield 13, 3) := by decide +kernel
theorem dX2_lotTold_93 : decode cX2_lotTold 93 = .ok (.iload_n 1, 1) := by decide +kernel
theorem dX2_lotTold_94 : decode cX2_lotTold 94 = .ok (.invokevirtual 74, 3) := by decide +kernel
theorem dX2_lotTold_97 : decode cX2_lotTold 97 = .ok (.ifCond .eq 7, 3) := by decide +kernel
theorem dX2_lotTold_100 : decode cX2_lotTold 100 = .ok (.iconst 1, 1) := by decide +kernel
theorem dX2_lotTold_101 : decode cX2_lotTold 101 = .ok (.goto 4, 3) := by decide +kernel
theorem dX2_lotTold_104 : decode cX2_lotTold 104 = .ok (.iconst 0, 1) := by decide +kernel
theorem dX2_lotTold_105 : decode cX2_lotTold 105 = .ok (.ireturn, 1) := by decide +kernel
theorem dX2_lotTold_106 : decode cX2_lotTold 106 = .ok (.aload_n 0, 1) := by decide +kernel
theorem dX2_lotTold_107 : decode cX2_lotTold 107 = .ok (.aload_n 0, 1) := by decide +kernel
theorem dX2_lotTold_108 : decode cX2_lotTold 108 = .ok (.getfield 13, 3) := by decide +kernel
theorem dX2_lotTold_111 : decode cX2_lotTold 111 = .ok (.iload_n 1, 1) := by decide +kernel
theorem dX2_lotTold_112 : decode cX2_lotTold 112 = .ok (.invokevirtual 78, 3) := by decide +kernel
theorem dX2_lotTold_115 : decode cX2_lotTold 115 = .ok (.ireturn, 1) := by decide +kernel
theorem dX2_lotTold_116 : decode cX2_lotTold 116 = .ok (.aload_n 0, 1) := by decide +kernel
theorem dX2_lotTold_117 : decode cX2_lotTold 117 = .ok (.aload_n 0, 1) := by decide +kernel
theorem dX2_lotTold_118 : decode cX2_lotTold 118 = .ok (.getfield 13, 3) := by decide +kernel
theorem dX2_lotTold_121 : decode cX2_lotTold 121 = .ok (.iload_n 1, 1) := by decide +kernel
theorem dX2_lotTold_122 : decode cX2_lotTold 122 = .ok (.invokevirtual 87, 3) := by decide +kernel
theorem dX2_lotTold_125 : decode cX2_lotTold 125 = .ok (.ireturn, 1) := by decide +kernel
set_option maxRecDepth 20000 in
theorem ggX2_lot_X2_isPlace : GoodIn wsX2_lot wsX2_isPlace := goodIn_r _ [6, 7, 8, 5, 9] (by decide +kernel) (by decide +kernel)
set_option maxRecDepth 20000 in
theorem gX2_lot_X2_isPlace : GoodIn wsX2_lot (va_wsS RX2 51 yX2_isPlace wsX2_isPlace) := goodIn_app (goodIn_of _ (by decide +kernel)) ggX2_lot_X2_isPlace
set_option maxRecDepth 20000 in
theorem ggX2_lot_X2_isIn : GoodIn wsX2_lot wsX2_isIn := goodIn_r _ [9] (by decide +kernel) (by decide +kernel)
set_option maxRecDepth 20000 in
theorem gX2_lot_X2_isIn : GoodIn wsX2_lot (va_wsS RX2 47 yX2_isIn wsX2_isIn) := goodIn_app (goodIn_of _ (by decide +kernel)) ggX2_lot_X2_isIn
set_option maxRecDepth 20000 in
theorem ggX2_lot_X2_no : GoodIn wsX2_lot wsX2_no := goodIn_r _ [13, 1, 61, 62, 63, 64, 65, 66, 67, 68, 69, 70, 71, 72, 73, 74] (by decide +kernel) (by decide +kernel)
set_option maxRecDepth 20000 in
theorem gX2_lot_X2_no : GoodIn wsX2_lot (wsV RX2 90 RX2 yX2_no wsX2_no) := goodIn_app (goodIn_of _ (by decide +kernel)) ggX2_lot_X2_no
set_option maxRecDepth 20000 in
theorem ggX2_lot_X2_look : GoodIn wsX2_lot wsX2_look := goodIn_r _ [17, 18, 19, 20, 21, 22, 23, 24, 25, 26, 27, 5, 28, 29, 30, 31, 3, 4, 6, 7, 8, 9, 32, 33, 34, 35, 36, 37, 61, 62, 63, 64, 65, 66, 67, 68, 69, 70, 71, 72, 73, 74] (by decide +kernel) (by decide +kernel)
set_option maxRecDepth 20000 in
theorem gX2_lot_X2_look : GoodIn wsX2_lot (wsV RX2 100 RX2 yX2_look wsX2_look) := goodIn_app (goodIn_of _ (by decide +kernel)) ggX2_lot_X2_look
set_option maxRecDepth 20000 in
theorem ggX2_lot_X2_lotTold : GoodIn wsX2_lot wsX2_lotTold := goodIn_r _ [41, 2, 20, 21, 18, 32, 33, 5, 34, 42, 43, 44, 45, 29, 30, 31, 3, 4, 6, 7, 8, 9, 46, 47, 48, 49, 23, 50, 51, 52, 53, 54, 55, 56, 57, 58, 59, 60, 22, 61, 62, 63, 64, 65, 66, 67, 68, 69, 70, 71, 72, 73, 74] (by decide +kernel) (by decide +kernel)
set_option maxRecDepth 20000 in
theorem gX2_lot_X2_lotTold : GoodIn wsX2_lot (wsV RX2 104 RX2 yX2_lotTold wsX2_lotTold) := goodIn_app (goodIn_of _ (by decide +kernel)) ggX2_lot_X2_lotTold
theorem dX2_lot_0 : decode cX2_lot 0 = .ok (.aload_n 0, 1) := by decide +kernel
theorem dX2_lot_1 : decode cX2_lot 1 = .ok (.iconst 0, 1) := by decide +kernel
theorem dX2_lot_2 : decode cX2_lot 2 = .ok (.putfield 44, 3) := by decide +kernel
theorem dX2_lot_5 : decode cX2_lot 5 = .ok (.iload_n 1, 1) := by decide +kernel
theorem dX2_lot_6 : decode cX2_lot 6 = .ok (.iload_n 2, 1) := by decide +kernel
theorem dX2_lot_7 : decode cX2_lot 7 = .ok (.invokestatic 51, 3) := by decide +kernel
theorem dX2_lot_10 : decode cX2_lot 10 = .ok (.ifCond .eq 12, 3) := by decide +kernel
theorem dX2_lot_13 : decode cX2_lot 13 = .ok (.iload_n 3, 1) := by decide +kernel
theorem dX2_lot_14 : decode cX2_lot 14 = .ok (.iconst 0, 1) := by decide +kernel
theorem dX2_lot_15 : decode cX2_lot 15 = .ok (.iconst 5, 1) := by decide +kernel
theorem dX2_lot_16 : decode cX2_lot 16 = .ok (.invokestatic 47, 3) := by decide +kernel
theorem dX2_lot_19 : decode cX2_lot 19 = .ok (.ifCond .ne 9, 3) := by decide +kernel
theorem dX2_lot_22 : decode cX2_lot 22 = .ok (.aload_n 0, 1) := by decide +kernel
theorem dX2_lot_23 : decode cX2_lot 23 = .ok (.iconst 1, 1) := by decide +kernel
theorem dX2_lot_24 : decode cX2_lot 24 = .ok (.invokevirtual 90, 3) := by decide +kernel
theorem dX2_lot_27 : decode cX2_lot 27 = .ok (.ireturn, 1) := by decide +kernel
theorem dX2_lot_28 : decode cX2_lot 28 = .ok (.aload_n 0, 1) := by decide +kernel
theorem dX2_lot_29 : decode cX2_lot 29 = .ok (.aload_n 0, 1) := by decide +kernel
theorem dX2_lot_30 : decode cX2_lot 30 = .ok (.getfield 13, 3) := by decide +kernel
theorem dX2_lot_33 : decode cX2_lot 33 = .ok (.invokevirtual 100, 3) := by decide +kernel
theorem dX2_lot_36 : decode cX2_lot 36 = .ok (.pop, 1) := by decide +kernel
theorem dX2_lot_37 : decode cX2_lot 37 = .ok (.aload_n 0, 1) := by decide +kernel
theorem dX2_lot_38 : decode cX2_lot 38 = .ok (.bipush 8, 2) := by decide +kernel
theorem dX2_lot_40 : decode cX2_lot 40 = .ok (.iload_n 2, 1) := by decide +kernel
theorem dX2_lot_41 : decode cX2_lot 41 = .ok (.imul, 1) := by decide +kernel
theorem dX2_lot_42 : decode cX2_lot 42 = .ok (.iload_n 1, 1) := by decide +kernel
theorem dX2_lot_43 : decode cX2_lot 43 = .ok (.iadd, 1) := by decide +kernel
theorem dX2_lot_44 : decode cX2_lot 44 = .ok (.iload_n 3, 1) := by decide +kernel
theorem dX2_lot_45 : decode cX2_lot 45 = .ok (.invokevirtual 104, 3) := by decide +kernel
theorem dX2_lot_48 : decode cX2_lot 48 = .ok (.ireturn, 1) := by decide +kernel
set_option maxRecDepth 20000 in
theorem ggX2_counted_X2_look : GoodIn wsX2_counted wsX2_look := goodIn_r _ [5, 6, 7, 8, 9, 10, 11, 12, 13, 14, 15, 4, 16, 17, 18, 19, 20, 21, 22, 23, 24, 25, 26, 27, 28, 29, 30, 31, 58, 59, 60, 61, 62, 63, 64, 65, 66, 67, 68, 69, 70, 71] (by decide +kernel) (by decide +kernel)
set_option maxRecDepth 20000 in
theorem gX2_counted_X2_look : GoodIn wsX2_counted (wsV RX2 100 RX2 yX2_look wsX2_look) := goodIn_app (goodIn_of _ (by decide +kernel)) ggX2_counted_X2_look
set_option maxRecDepth 20000 in
theorem ggX2_counted_X2_sum : GoodIn wsX2_counted wsX2_sum := goodIn_r _ [35, 36, 37, 38, 4, 39, 40, 41, 42, 43, 10, 8, 44, 45, 46, 47, 11, 48, 49, 50, 17, 18, 19, 20, 21, 22, 23, 24, 25, 51, 52, 53, 54, 6, 26, 27, 28, 58, 59, 60, 61, 62, 63, 64, 65, 66, 67, 68, 69, 70, 71] (by decide +kernel) (by decide +kernel)
set_option maxRecDepth 20000 in
theorem gX2_counted_X2_sum : GoodIn wsX2_counted (wsV RX2 107 RX2 yX2_sum wsX2_sum) := goodIn_app (goodIn_of _ (by decide +kernel)) ggX2_counted_X2_sum
set_option maxRecDepth 20000 in
theorem ggX2_counted_X2_many : GoodIn wsX2_counted wsX2_many := goodIn_r _ [57] (by decide +kernel) (by decide +kernel)
set_option maxRecDepth 20000 in
theorem gX2_counted_X2_many : GoodIn wsX2_counted (va_wsS RX2 111 yX2_many wsX2_many) := goodIn_app (goodIn_of _ (by decide +kernel)) ggX2_counted_X2_many
theorem dX2_counted_0 : decode cX2_counted 0 = .ok (.iload_n 2, 1) := by decide +kernel
theorem dX2_counted_1 : decode cX2_counted 1 = .ok (.tableswitch 104 0 12 #[67, 69, 104, 104, 104, 104, 104, 104, 104, 72, 78, 78, 101], 67) := by decide +kernel
theorem dX2_counted_68 : decode cX2_counted 68 = .ok (.iload_n 3, 1) := by decide +kernel
theorem dX2_counted_69 : decode cX2_counted 69 = .ok (.ireturn, 1) := by decide +kernel
theorem dX2_counted_70 : decode cX2_counted 70 = .ok (.iload 4, 2) := by decide +kernel
theorem dX2_counted_72 : decode cX2_counted 72 = .ok (.ireturn, 1) := by decide +kernel
theorem dX2_counted_73 : decode cX2_counted 73 = .ok (.aload_n 0, 1) := by decide +kernel
theorem dX2_counted_74 : decode cX2_counted 74 = .ok (.aload_n 1, 1) := by decide +kernel
theorem dX2_counted_75 : decode cX2_counted 75 = .ok (.invokevirtual 100, 3) := by decide +kernel
theorem dX2_counted_78 : decode cX2_counted 78 = .ok (.ireturn, 1) := by decide +kernel
theorem dX2_counted_79 : decode cX2_counted 79 = .ok (.aload_n 0, 1) := by decide +kernel
theorem dX2_counted_80 : decode cX2_counted 80 = .ok (.aload_n 1, 1) := by decide +kernel
theorem dX2_counted_81 : decode cX2_counted 81 = .ok (.invokevirtual 100, 3) := by decide +kernel
theorem dX2_counted_84 : decode cX2_counted 84 = .ok (.pop, 1) := by decide +kernel
theorem dX2_counted_85 : decode cX2_counted 85 = .ok (.aload_n 0, 1) := by decide +kernel
theorem dX2_counted_86 : decode cX2_counted 86 = .ok (.aload_n 1, 1) := by decide +kernel
theorem dX2_counted_87 : decode cX2_counted 87 = .ok (.iload_n 2, 1) := by decide +kernel
theorem dX2_counted_88 : decode cX2_counted 88 = .ok (.bipush 11, 2) := by decide +kernel
theorem dX2_counted_90 : decode cX2_counted 90 = .ok (.if_icmp .ne 7, 3) := by decide +kernel
theorem dX2_counted_93 : decode cX2_counted 93 = .ok (.iconst 1, 1) := by decide +kernel
theorem dX2_counted_94 : decode cX2_counted 94 = .ok (.goto 4, 3) := by decide +kernel
theorem dX2_counted_97 : decode cX2_counted 97 = .ok (.iconst 0, 1) := by decide +kernel
theorem dX2_counted_98 : decode cX2_counted 98 = .ok (.invokevirtual 107, 3) := by decide +kernel
theorem dX2_counted_101 : decode cX2_counted 101 = .ok (.ireturn, 1) := by decide +kernel
theorem dX2_counted_102 : decode cX2_counted 102 = .ok (.iload 5, 2) := by decide +kernel
theorem dX2_counted_104 : decode cX2_counted 104 = .ok (.ireturn, 1) := by decide +kernel
theorem dX2_counted_105 : decode cX2_counted 105 = .ok (.aload_n 1, 1) := by decide +kernel
theorem dX2_counted_106 : decode cX2_counted 106 = .ok (.iload_n 2, 1) := by decide +kernel
theorem dX2_counted_107 : decode cX2_counted 107 = .ok (.iconst 2, 1) := by decide +kernel
theorem dX2_counted_108 : decode cX2_counted 108 = .ok (.isub, 1) := by decide +kernel
theorem dX2_counted_109 : decode cX2_counted 109 = .ok (.invokestatic 111, 3) := by decide +kernel
theorem dX2_counted_112 : decode cX2_counted 112 = .ok (.ireturn, 1) := by decide +kernel
set_option maxRecDepth 20000 in
theorem ggX2_counted__X2_counted : GoodIn wsX2_counted_ wsX2_counted := goodIn_r _ [9, 10, 11, 12, 8, 13, 14, 15, 16, 17, 18, 19, 20, 21, 22, 23, 24, 25, 26, 27, 28, 29, 30, 31, 32, 33, 34, 35, 36, 37, 38, 39, 40, 41, 42, 43, 44, 45, 46, 47, 48, 49, 50, 51, 52, 53, 54, 55, 56, 57, 58, 59, 60, 61, 62, 63, 64, 65, 66, 67, 68, 69, 70, 71, 72, 73, 74, 75, 76, 77, 78, 79] (by decide +kernel) (by decide +kernel)
set_option maxRecDepth 20000 in
theorem gX2_counted__X2_counted : GoodIn wsX2_counted_ (wsV RX2 120 RX2 yX2_counted wsX2_counted) := goodIn_app (goodIn_of _ (by decide +kernel)) ggX2_counted__X2_counted
theorem dX2_counted__0 : decode cX2_counted_ 0 = .ok (.aload_n 0, 1) := by decide +kernel
theorem dX2_counted__1 : decode cX2_counted_ 1 = .ok (.aload_n 0, 1) := by decide +kernel
theorem dX2_counted__2 : decode cX2_counted_ 2 = .ok (.getfield 13, 3) := by decide +kernel
theorem dX2_counted__5 : decode cX2_counted_ 5 = .ok (.iload_n 1, 1) := by decide +kernel
theorem dX2_counted__6 : decode cX2_counted_ 6 = .ok (.aload_n 0, 1) := by decide +kernel
theorem dX2_counted__7 : decode cX2_counted_ 7 = .ok (.getfield 114, 3) := by decide +kernel
theorem dX2_counted__10 : decode cX2_counted_ 10 = .ok (.aload_n 0, 1) := by decide +kernel
theorem dX2_counted__11 : decode cX2_counted_ 11 = .ok (.getfield 7, 3) := by decide +kernel
theorem dX2_counted__14 : decode cX2_counted_ 14 = .ok (.aload_n 0, 1) := by decide +kernel
theorem dX2_counted__15 : decode cX2_counted_ 15 = .ok (.getfield 117, 3) := by decide +kernel
theorem dX2_counted__18 : decode cX2_counted_ 18 = .ok (.invokevirtual 120, 3) := by decide +kernel
theorem dX2_counted__21 : decode cX2_counted_ 21 = .ok (.ireturn, 1) := by decide +kernel
set_option maxRecDepth 20000 in
theorem ggX2_count_X2_isIn : GoodIn wsX2_count wsX2_isIn := goodIn_r _ [5] (by decide +kernel) (by decide +kernel)
set_option maxRecDepth 20000 in
theorem gX2_count_X2_isIn : GoodIn wsX2_count (va_wsS RX2 47 yX2_isIn wsX2_isIn) := goodIn_app (goodIn_of _ (by decide +kernel)) ggX2_count_X2_isIn
set_option maxRecDepth 20000 in
theorem ggX2_count_X2_counted_ : GoodIn wsX2_count wsX2_counted_ := goodIn_r _ [9, 10, 11, 12, 13, 14, 15, 16, 4, 17, 18, 19, 20, 21, 22, 23, 24, 25, 26, 27, 28, 29, 30, 31, 32, 33, 34, 35, 36, 37, 38, 2, 3, 5, 39, 40, 41, 42, 43, 44, 45, 46, 47, 48, 49, 50, 51, 52, 53, 54, 55, 56, 57, 58, 59, 60, 61, 62, 63, 64, 65, 66, 67, 68, 69, 70, 75, 76, 77, 78, 79, 80, 81, 82, 83, 84, 85, 86, 87, 88] (by decide +kernel) (by decide +kernel)
set_option maxRecDepth 20000 in
theorem gX2_count_X2_counted_ : GoodIn wsX2_count (wsV RX2 124 RX2 yX2_counted_ wsX2_counted_) := goodIn_app (goodIn_of _ (by decide +kernel)) ggX2_count_X2_counted_
set_option maxRecDepth 20000 in
theorem ggX2_count_X2_no : GoodIn wsX2_count wsX2_no := goodIn_r _ [74, 1, 75, 76, 77, 78, 79, 80, 81, 82, 83, 84, 85, 86, 87, 88] (by decide +kernel) (by decide +kernel)
set_option maxRecDepth 20000 in
theorem gX2_count_X2_no : GoodIn wsX2_count (wsV RX2 90 RX2 yX2_no wsX2_no) := goodIn_app (goodIn_of _ (by decide +kernel)) ggX2_count_X2_no
theorem dX2_count_0 : decode cX2_count 0 = .ok (.aload_n 0, 1) := by decide +kernel
theorem dX2_count_1 : decode cX2_count 1 = .ok (.iconst 0, 1) := by decide +kernel
theorem dX2_count_2 : decode cX2_count 2 = .ok (.putfield 44, 3) := by decide +kernel
theorem dX2_count_5 : decode cX2_count 5 = .ok (.iload_n 1, 1) := by decide +kernel
theorem dX2_count_6 : decode cX2_count 6 = .ok (.iconst 0, 1) := by decide +kernel
theorem dX2_count_7 : decode cX2_count 7 = .ok (.bipush 12, 2) := by decide +kernel
theorem dX2_count_9 : decode cX2_count 9 = .ok (.invokestatic 47, 3) := by decide +kernel
theorem dX2_count_12 : decode cX2_count 12 = .ok (.ifCond .eq 11, 3) := by decide +kernel
theorem dX2_count_15 : decode cX2_count 15 = .ok (.aload_n 0, 1) := by decide +kernel
theorem dX2_count_16 : decode cX2_count 16 = .ok (.iload_n 1, 1) := by decide +kernel
theorem dX2_count_17 : decode cX2_count 17 = .ok (.invokevirtual 124, 3) := by decide +kernel
theorem dX2_count_20 : decode cX2_count 20 = .ok (.goto 8, 3) := by decide +kernel
theorem dX2_count_23 : decode cX2_count 23 = .ok (.aload_n 0, 1) := by decide +kernel
theorem dX2_count_24 : decode cX2_count 24 = .ok (.iconst 1, 1) := by decide +kernel
theorem dX2_count_25 : decode cX2_count 25 = .ok (.invokevirtual 90, 3) := by decide +kernel
theorem dX2_count_28 : decode cX2_count 28 = .ok (.ireturn, 1) := by decide +kernel
set_option maxRecDepth 20000 in
theorem ggX2_walk_X2_isIn : GoodIn wsX2_walk wsX2_isIn := goodIn_r _ [7] (by decide +kernel) (by decide +kernel)
set_option maxRecDepth 20000 in
theorem gX2_walk_X2_isIn : GoodIn wsX2_walk (va_wsS RX2 47 yX2_isIn wsX2_isIn) := goodIn_app (goodIn_of _ (by decide +kernel)) ggX2_walk_X2_isIn
set_option maxRecDepth 20000 in
theorem ggX2_walk_X2_no : GoodIn wsX2_walk wsX2_no := goodIn_r _ [11, 1, 29, 30, 31, 32, 33, 34, 35, 36, 37, 38, 39, 40, 41, 42] (by decide +kernel) (by decide +kernel)
set_option maxRecDepth 20000 in
theorem gX2_walk_X2_no : GoodIn wsX2_walk (wsV RX2 90 RX2 yX2_no wsX2_no) := goodIn_app (goodIn_of _ (by decide +kernel)) ggX2_walk_X2_no
set_option maxRecDepth 20000 in
theorem ggX2_walk_X2_isLand : GoodIn wsX2_walk wsX2_isLand := goodIn_r _ [14] (by decide +kernel) (by decide +kernel)
set_option maxRecDepth 20000 in
theorem gX2_walk_X2_isLand : GoodIn wsX2_walk (va_wsS RX2 59 yX2_isLand wsX2_isLand) := goodIn_app (goodIn_of _ (by decide +kernel)) ggX2_walk_X2_isLand
set_option maxRecDepth 20000 in
theorem ggX2_walk_X2_fill : GoodIn wsX2_walk wsX2_fill := goodIn_r _ [18, 3, 19, 20, 21, 6, 22, 23, 24, 25, 4, 5, 7, 12, 13, 14, 26, 27, 28, 29, 30, 31, 32, 33, 34, 35, 36, 37, 38, 39, 40, 41, 42] (by decide +kernel) (by decide +kernel)
set_option maxRecDepth 20000 in
theorem gX2_walk_X2_fill : GoodIn wsX2_walk (wsV RX2 66 RX2 yX2_fill wsX2_fill) := goodIn_app (goodIn_of _ (by decide +kernel)) ggX2_walk_X2_fill
theorem dX2_walk_0 : decode cX2_walk 0 = .ok (.aload_n 0, 1) := by decide +kernel
theorem dX2_walk_1 : decode cX2_walk 1 = .ok (.iconst 0, 1) := by decide +kernel
theorem dX2_walk_2 : decode cX2_walk 2 = .ok (.putfield 44, 3) := by decide +kernel
theorem dX2_walk_5 : decode cX2_walk 5 = .ok (.iload_n 1, 1) := by decide +kernel
theorem dX2_walk_6 : decode cX2_walk 6 = .ok (.iconst 0, 1) := by decide +kernel
theorem dX2_walk_7 : decode cX2_walk 7 = .ok (.bipush 63, 2) := by decide +kernel
theorem dX2_walk_9 : decode cX2_walk 9 = .ok (.invokestatic 47, 3) := by decide +kernel
theorem dX2_walk_12 : decode cX2_walk 12 = .ok (.ifCond .eq 13, 3) := by decide +kernel
theorem dX2_walk_15 : decode cX2_walk 15 = .ok (.iload_n 2, 1) := by decide +kernel
theorem dX2_walk_16 : decode cX2_walk 16 = .ok (.iconst 0, 1) := by decide +kernel
theorem dX2_walk_17 : decode cX2_walk 17 = .ok (.bipush 63, 2) := by decide +kernel
theorem dX2_walk_19 : decode cX2_walk 19 = .ok (.invokestatic 47, 3) := by decide +kernel
theorem dX2_walk_22 : decode cX2_walk 22 = .ok (.ifCond .ne 9, 3) := by decide +kernel
theorem dX2_walk_25 : decode cX2_walk 25 = .ok (.aload_n 0, 1) := by decide +kernel
theorem dX2_walk_26 : decode cX2_walk 26 = .ok (.iconst 1, 1) := by decide +kernel
theorem dX2_walk_27 : decode cX2_walk 27 = .ok (.invokevirtual 90, 3) := by decide +kernel
theorem dX2_walk_30 : decode cX2_walk 30 = .ok (.ireturn, 1) := by decide +kernel
theorem dX2_walk_31 : decode cX2_walk 31 = .ok (.aload_n 0, 1) := by decide +kernel
theorem dX2_walk_32 : decode cX2_walk 32 = .ok (.getfield 13, 3) := by decide +kernel
theorem dX2_walk_35 : decode cX2_walk 35 = .ok (.iload_n 1, 1) := by decide +kernel
theorem dX2_walk_36 : decode cX2_walk 36 = .ok (.iaload, 1) := by decide +kernel
theorem dX2_walk_37 : decode cX2_walk 37 = .ok (.invokestatic 59, 3) := by decide +kernel
theorem dX2_walk_40 : decode cX2_walk 40 = .ok (.ifCond .eq 15, 3) := by decide +kernel
theorem dX2_walk_43 : decode cX2_walk 43 = .ok (.aload_n 0, 1) := by decide +kernel
theorem dX2_walk_44 : decode cX2_walk 44 = .ok (.getfield 13, 3) := by decide +kernel
theorem dX2_walk_47 : decode cX2_walk 47 = .ok (.iload_n 2, 1) := by decide +kernel
theorem dX2_walk_48 : decode cX2_walk 48 = .ok (.iaload, 1) := by decide +kernel
theorem dX2_walk_49 : decode cX2_walk 49 = .ok (.invokestatic 59, 3) := by decide +kernel
theorem dX2_walk_52 : decode cX2_walk 52 = .ok (.ifCond .ne 9, 3) := by decide +kernel
theorem dX2_walk_55 : decode cX2_walk 55 = .ok (.aload_n 0, 1) := by decide +kernel
theorem dX2_walk_56 : decode cX2_walk 56 = .ok (.iconst 2, 1) := by decide +kernel
theorem dX2_walk_57 : decode cX2_walk 57 = .ok (.invokevirtual 90, 3) := by decide +kernel
theorem dX2_walk_60 : decode cX2_walk 60 = .ok (.ireturn, 1) := by decide +kernel
theorem dX2_walk_61 : decode cX2_walk 61 = .ok (.aload_n 0, 1) := by decide +kernel
theorem dX2_walk_62 : decode cX2_walk 62 = .ok (.aload_n 0, 1) := by decide +kernel
theorem dX2_walk_63 : decode cX2_walk 63 = .ok (.getfield 13, 3) := by decide +kernel
theorem dX2_walk_66 : decode cX2_walk 66 = .ok (.iload_n 1, 1) := by decide +kernel
theorem dX2_walk_67 : decode cX2_walk 67 = .ok (.iconst 1, 1) := by decide +kernel
theorem dX2_walk_68 : decode cX2_walk 68 = .ok (.invokevirtual 66, 3) := by decide +kernel
theorem dX2_walk_71 : decode cX2_walk 71 = .ok (.pop, 1) := by decide +kernel
theorem dX2_walk_72 : decode cX2_walk 72 = .ok (.aload_n 0, 1) := by decide +kernel
theorem dX2_walk_73 : decode cX2_walk 73 = .ok (.getfield 41, 3) := by decide +kernel
theorem dX2_walk_76 : decode cX2_walk 76 = .ok (.iload_n 2, 1) := by decide +kernel
theorem dX2_walk_77 : decode cX2_walk 77 = .ok (.iaload, 1) := by decide +kernel
theorem dX2_walk_78 : decode cX2_walk 78 = .ok (.sipush 999, 3) := by decide +kernel
theorem dX2_walk_81 : decode cX2_walk 81 = .ok (.if_icmp .ne 7, 3) := by decide +kernel
theorem dX2_walk_84 : decode cX2_walk 84 = .ok (.iconst (-1), 1) := by decide +kernel
theorem dX2_walk_85 : decode cX2_walk 85 = .ok (.goto 9, 3) := by decide +kernel
theorem dX2_walk_88 : decode cX2_walk 88 = .ok (.aload_n 0, 1) := by decide +kernel
theorem dX2_walk_89 : decode cX2_walk 89 = .ok (.getfield 41, 3) := by decide +kernel
theorem dX2_walk_92 : decode cX2_walk 92 = .ok (.iload_n 2, 1) := by decide +kernel
theorem dX2_walk_93 : decode cX2_walk 93 = .ok (.iaload, 1) := by decide +kernel
theorem dX2_walk_94 : decode cX2_walk 94 = .ok (.ireturn, 1) := by decide +kernel
set_option maxRecDepth 20000 in
theorem ggX2_sail_X2_isIn : GoodIn wsX2_sail wsX2_isIn := goodIn_r _ [7] (by decide +kernel) (by decide +kernel)
set_option maxRecDepth 20000 in
theorem gX2_sail_X2_isIn : GoodIn wsX2_sail (va_wsS RX2 47 yX2_isIn wsX2_isIn) := goodIn_app (goodIn_of _ (by decide +kernel)) ggX2_sail_X2_isIn
set_option maxRecDepth 20000 in
theorem ggX2_sail_X2_no : GoodIn wsX2_sail wsX2_no := goodIn_r _ [11, 1, 29, 30, 31, 32, 33, 34, 35, 36, 37, 38, 39, 40, 41, 42] (by decide +kernel) (by decide +kernel)
set_option maxRecDepth 20000 in
theorem gX2_sail_X2_no : GoodIn wsX2_sail (wsV RX2 90 RX2 yX2_no wsX2_no) := goodIn_app (goodIn_of _ (by decide +kernel)) ggX2_sail_X2_no
set_option maxRecDepth 20000 in
theorem ggX2_sail_X2_isWater : GoodIn wsX2_sail wsX2_isWater := goodIn_r _ [14] (by decide +kernel) (by decide +kernel)
set_option maxRecDepth 20000 in
theorem gX2_sail_X2_isWater : GoodIn wsX2_sail (va_wsS RX2 63 yX2_isWater wsX2_isWater) := goodIn_app (goodIn_of _ (by decide +kernel)) ggX2_sail_X2_isWater
set_option maxRecDepth 20000 in
theorem ggX2_sail_X2_fill : GoodIn wsX2_sail wsX2_fill := goodIn_r _ [18, 3, 19, 20, 21, 6, 22, 23, 24, 25, 4, 5, 7, 26, 27, 28, 12, 13, 14, 29, 30, 31, 32, 33, 34, 35, 36, 37, 38, 39, 40, 41, 42] (by decide +kernel) (by decide +kernel)
set_option maxRecDepth 20000 in
theorem gX2_sail_X2_fill : GoodIn wsX2_sail (wsV RX2 66 RX2 yX2_fill wsX2_fill) := goodIn_app (goodIn_of _ (by decide +kernel)) ggX2_sail_X2_fill
theorem dX2_sail_0 : decode cX2_sail 0 = .ok (.aload_n 0, 1) := by decide +kernel
theorem dX2_sail_1 : decode cX2_sail 1 = .ok (.iconst 0, 1) := by decide +kernel
theorem dX2_sail_2 : decode cX2_sail 2 = .ok (.putfield 44, 3) := by decide +kernel
theorem dX2_sail_5 : decode cX2_sail 5 = .ok (.iload_n 1, 1) := by decide +kernel
theorem dX2_sail_6 : decode cX2_sail 6 = .ok (.iconst 0, 1) := by decide +kernel
theorem dX2_sail_7 : decode cX2_sail 7 = .ok (.bipush 63, 2) := by decide +kernel
theorem dX2_sail_9 : decode cX2_sail 9 = .ok (.invokestatic 47, 3) := by decide +kernel
theorem dX2_sail_12 : decode cX2_sail 12 = .ok (.ifCond .ne 9, 3) := by decide +kernel
theorem dX2_sail_15 : decode cX2_sail 15 = .ok (.aload_n 0, 1) := by decide +kernel
theorem dX2_sail_16 : decode cX2_sail 16 = .ok (.iconst 1, 1) := by decide +kernel
theorem dX2_sail_17 : decode cX2_sail 17 = .ok (.invokevirtual 90, 3) := by decide +kernel
theorem dX2_sail_20 : decode cX2_sail 20 = .ok (.ireturn, 1) := by decide +kernel
theorem dX2_sail_21 : decode cX2_sail 21 = .ok (.aload_n 0, 1) := by decide +kernel
theorem dX2_sail_22 : decode cX2_sail 22 = .ok (.getfield 13, 3) := by decide +kernel
theorem dX2_sail_25 : decode cX2_sail 25 = .ok (.iload_n 1, 1) := by decide +kernel
theorem dX2_sail_26 : decode cX2_sail 26 = .ok (.iaload, 1) := by decide +kernel
theorem dX2_sail_27 : decode cX2_sail 27 = .ok (.invokestatic 63, 3) := by decide +kernel
theorem dX2_sail_30 : decode cX2_sail 30 = .ok (.ifCond .ne 9, 3) := by decide +kernel
theorem dX2_sail_33 : decode cX2_sail 33 = .ok (.aload_n 0, 1) := by decide +kernel
theorem dX2_sail_34 : decode cX2_sail 34 = .ok (.iconst 2, 1) := by decide +kernel
theorem dX2_sail_35 : decode cX2_sail 35 = .ok (.invokevirtual 90, 3) := by decide +kernel
theorem dX2_sail_38 : decode cX2_sail 38 = .ok (.ireturn, 1) := by decide +kernel
theorem dX2_sail_39 : decode cX2_sail 39 = .ok (.aload_n 0, 1) := by decide +kernel
theorem dX2_sail_40 : decode cX2_sail 40 = .ok (.aload_n 0, 1) := by decide +kernel
theorem dX2_sail_41 : decode cX2_sail 41 = .ok (.getfield 13, 3) := by decide +kernel
theorem dX2_sail_44 : decode cX2_sail 44 = .ok (.iconst 3, 1) := by decide +kernel
theorem dX2_sail_45 : decode cX2_sail 45 = .ok (.iconst 0, 1) := by decide +kernel
theorem dX2_sail_46 : decode cX2_sail 46 = .ok (.invokevirtual 66, 3) := by decide +kernel
theorem dX2_sail_49 : decode cX2_sail 49 = .ok (.pop, 1) := by decide +kernel
theorem dX2_sail_50 : decode cX2_sail 50 = .ok (.aload_n 0, 1) := by decide +kernel
theorem dX2_sail_51 : decode cX2_sail 51 = .ok (.getfield 41, 3) := by decide +kernel
theorem dX2_sail_54 : decode cX2_sail 54 = .ok (.iload_n 1, 1) := by decide +kernel
theorem dX2_sail_55 : decode cX2_sail 55 = .ok (.iaload, 1) := by decide +kernel
theorem dX2_sail_56 : decode cX2_sail 56 = .ok (.sipush 999, 3) := by decide +kernel
theorem dX2_sail_59 : decode cX2_sail 59 = .ok (.if_icmp .ne 7, 3) := by decide +kernel
theorem dX2_sail_62 : decode cX2_sail 62 = .ok (.iconst (-1), 1) := by decide +kernel
theorem dX2_sail_63 : decode cX2_sail 63 = .ok (.goto 9, 3) := by decide +kernel
theorem dX2_sail_66 : decode cX2_sail 66 = .ok (.aload_n 0, 1) := by decide +kernel
theorem dX2_sail_67 : decode cX2_sail 67 = .ok (.getfield 41, 3) := by decide +kernel
theorem dX2_sail_70 : decode cX2_sail 70 = .ok (.iload_n 1, 1) := by decide +kernel
theorem dX2_sail_71 : decode cX2_sail 71 = .ok (.iaload, 1) := by decide +kernel
theorem dX2_sail_72 : decode cX2_sail 72 = .ok (.ireturn, 1) := by decide +kernel
set_option maxRecDepth 20000 in
theorem ggX2_leave_X2_complaints : GoodIn wsX2_leave wsX2_complaints := goodIn_r _ [6, 7, 8, 9, 10, 5, 11, 12, 13, 14, 15, 16, 17, 18, 19, 20, 21, 22, 23, 24, 25, 26, 27, 28, 29, 30, 31, 32, 33, 34, 35, 36, 37, 38, 39, 40, 41, 42] (by decide +kernel) (by decide +kernel)
set_option maxRecDepth 20000 in
theorem gX2_leave_X2_complaints : GoodIn wsX2_leave (wsV RX2 78 RX2 yX2_complaints wsX2_complaints) := goodIn_app (goodIn_of _ (by decide +kernel)) ggX2_leave_X2_complaints
theorem dX2_leave_0 : decode cX2_leave 0 = .ok (.iconst 0, 1) := by decide +kernel
theorem dX2_leave_1 : decode cX2_leave 1 = .ok (.istore_n 2, 1) := by decide +kernel
theorem dX2_leave_2 : decode cX2_leave 2 = .ok (.iconst 0, 1) := by decide +kernel
theorem dX2_leave_3 : decode cX2_leave 3 = .ok (.istore_n 3, 1) := by decide +kernel
theorem dX2_leave_4 : decode cX2_leave 4 = .ok (.iload_n 3, 1) := by decide +kernel
theorem dX2_leave_5 : decode cX2_leave 5 = .ok (.bipush 64, 2) := by decide +kernel
theorem dX2_leave_7 : decode cX2_leave 7 = .ok (.if_icmp .ge 52, 3) := by decide +kernel
theorem dX2_leave_10 : decode cX2_leave 10 = .ok (.aload_n 0, 1) := by decide +kernel
theorem dX2_leave_11 : decode cX2_leave 11 = .ok (.getfield 20, 3) := by decide +kernel
theorem dX2_leave_14 : decode cX2_leave 14 = .ok (.iload_n 3, 1) := by decide +kernel
theorem dX2_leave_15 : decode cX2_leave 15 = .ok (.aload_n 0, 1) := by decide +kernel
theorem dX2_leave_16 : decode cX2_leave 16 = .ok (.aload_n 1, 1) := by decide +kernel
theorem dX2_leave_17 : decode cX2_leave 17 = .ok (.iload_n 3, 1) := by decide +kernel
theorem dX2_leave_18 : decode cX2_leave 18 = .ok (.invokevirtual 78, 3) := by decide +kernel
theorem dX2_leave_21 : decode cX2_leave 21 = .ok (.iconst 4, 1) := by decide +kernel
theorem dX2_leave_22 : decode cX2_leave 22 = .ok (.if_icmp .lt 7, 3) := by decide +kernel
theorem dX2_leave_25 : decode cX2_leave 25 = .ok (.iconst 2, 1) := by decide +kernel
theorem dX2_leave_26 : decode cX2_leave 26 = .ok (.goto 6, 3) := by decide +kernel
theorem dX2_leave_29 : decode cX2_leave 29 = .ok (.aload_n 1, 1) := by decide +kernel
theorem dX2_leave_30 : decode cX2_leave 30 = .ok (.iload_n 3, 1) := by decide +kernel
theorem dX2_leave_31 : decode cX2_leave 31 = .ok (.iaload, 1) := by decide +kernel
theorem dX2_leave_32 : decode cX2_leave 32 = .ok (.iastore, 1) := by decide +kernel
theorem dX2_leave_33 : decode cX2_leave 33 = .ok (.iload_n 2, 1) := by decide +kernel
theorem dX2_leave_34 : decode cX2_leave 34 = .ok (.aload_n 0, 1) := by decide +kernel
theorem dX2_leave_35 : decode cX2_leave 35 = .ok (.getfield 20, 3) := by decide +kernel
theorem dX2_leave_38 : decode cX2_leave 38 = .ok (.iload_n 3, 1) := by decide +kernel
theorem dX2_leave_39 : decode cX2_leave 39 = .ok (.iaload, 1) := by decide +kernel
theorem dX2_leave_40 : decode cX2_leave 40 = .ok (.aload_n 1, 1) := by decide +kernel
theorem dX2_leave_41 : decode cX2_leave 41 = .ok (.iload_n 3, 1) := by decide +kernel
theorem dX2_leave_42 : decode cX2_leave 42 = .ok (.iaload, 1) := by decide +kernel
theorem dX2_leave_43 : decode cX2_leave 43 = .ok (.if_icmp .ne 7, 3) := by decide +kernel
theorem dX2_leave_46 : decode cX2_leave 46 = .ok (.iconst 0, 1) := by decide +kernel
theorem dX2_leave_47 : decode cX2_leave 47 = .ok (.goto 4, 3) := by decide +kernel
theorem dX2_leave_50 : decode cX2_leave 50 = .ok (.iconst 1, 1) := by decide +kernel
theorem dX2_leave_51 : decode cX2_leave 51 = .ok (.iadd, 1) := by decide +kernel
theorem dX2_leave_52 : decode cX2_leave 52 = .ok (.istore_n 2, 1) := by decide +kernel
theorem dX2_leave_53 : decode cX2_leave 53 = .ok (.iinc 3 1, 3) := by decide +kernel
theorem dX2_leave_56 : decode cX2_leave 56 = .ok (.goto (-52), 3) := by decide +kernel
theorem dX2_leave_59 : decode cX2_leave 59 = .ok (.iload_n 2, 1) := by decide +kernel
theorem dX2_leave_60 : decode cX2_leave 60 = .ok (.ireturn, 1) := by decide +kernel
set_option maxRecDepth 20000 in
theorem ggX2_sink_X2_besideOf : GoodIn wsX2_sink wsX2_besideOf := goodIn_r _ [5, 6, 7, 4, 8, 9, 10, 11, 12, 13, 14] (by decide +kernel) (by decide +kernel)
set_option maxRecDepth 20000 in
theorem gX2_sink_X2_besideOf : GoodIn wsX2_sink (va_wsS RX2 70 yX2_besideOf wsX2_besideOf) := goodIn_app (goodIn_of _ (by decide +kernel)) ggX2_sink_X2_besideOf
theorem dX2_sink_0 : decode cX2_sink 0 = .ok (.iconst 0, 1) := by decide +kernel
theorem dX2_sink_1 : decode cX2_sink 1 = .ok (.istore_n 2, 1) := by decide +kernel
theorem dX2_sink_2 : decode cX2_sink 2 = .ok (.iload_n 2, 1) := by decide +kernel
theorem dX2_sink_3 : decode cX2_sink 3 = .ok (.bipush 64, 2) := by decide +kernel
theorem dX2_sink_5 : decode cX2_sink 5 = .ok (.if_icmp .ge 45, 3) := by decide +kernel
theorem dX2_sink_8 : decode cX2_sink 8 = .ok (.aload_n 1, 1) := by decide +kernel
theorem dX2_sink_9 : decode cX2_sink 9 = .ok (.iload_n 2, 1) := by decide +kernel
theorem dX2_sink_10 : decode cX2_sink 10 = .ok (.aload_n 0, 1) := by decide +kernel
theorem dX2_sink_11 : decode cX2_sink 11 = .ok (.getfield 20, 3) := by decide +kernel
theorem dX2_sink_14 : decode cX2_sink 14 = .ok (.iload_n 2, 1) := by decide +kernel
theorem dX2_sink_15 : decode cX2_sink 15 = .ok (.iaload, 1) := by decide +kernel
theorem dX2_sink_16 : decode cX2_sink 16 = .ok (.iconst 2, 1) := by decide +kernel
theorem dX2_sink_17 : decode cX2_sink 17 = .ok (.if_icmp .ne 20, 3) := by decide +kernel
theorem dX2_sink_20 : decode cX2_sink 20 = .ok (.aload_n 0, 1) := by decide +kernel
theorem dX2_sink_21 : decode cX2_sink 21 = .ok (.getfield 20, 3) := by decide +kernel
theorem dX2_sink_24 : decode cX2_sink 24 = .ok (.iload_n 2, 1) := by decide +kernel
theorem dX2_sink_25 : decode cX2_sink 25 = .ok (.iconst 0, 1) := by decide +kernel
theorem dX2_sink_26 : decode cX2_sink 26 = .ok (.invokestatic 70, 3) := by decide +kernel
theorem dX2_sink_29 : decode cX2_sink 29 = .ok (.iconst 3, 1) := by decide +kernel
theorem dX2_sink_30 : decode cX2_sink 30 = .ok (.if_icmp .lt 7, 3) := by decide +kernel
theorem dX2_sink_33 : decode cX2_sink 33 = .ok (.iconst 0, 1) := by decide +kernel
theorem dX2_sink_34 : decode cX2_sink 34 = .ok (.goto 9, 3) := by decide +kernel
theorem dX2_sink_37 : decode cX2_sink 37 = .ok (.aload_n 0, 1) := by decide +kernel
theorem dX2_sink_38 : decode cX2_sink 38 = .ok (.getfield 20, 3) := by decide +kernel
theorem dX2_sink_41 : decode cX2_sink 41 = .ok (.iload_n 2, 1) := by decide +kernel
theorem dX2_sink_42 : decode cX2_sink 42 = .ok (.iaload, 1) := by decide +kernel
theorem dX2_sink_43 : decode cX2_sink 43 = .ok (.iastore, 1) := by decide +kernel
theorem dX2_sink_44 : decode cX2_sink 44 = .ok (.iinc 2 1, 3) := by decide +kernel
theorem dX2_sink_47 : decode cX2_sink 47 = .ok (.goto (-45), 3) := by decide +kernel
theorem dX2_sink_50 : decode cX2_sink 50 = .ok (.return_, 1) := by decide +kernel
set_option maxRecDepth 20000 in
theorem ggX2_pass_X2_isIn : GoodIn wsX2_pass wsX2_isIn := goodIn_r _ [9] (by decide +kernel) (by decide +kernel)
set_option maxRecDepth 20000 in
theorem gX2_pass_X2_isIn : GoodIn wsX2_pass (va_wsS RX2 47 yX2_isIn wsX2_isIn) := goodIn_app (goodIn_of _ (by decide +kernel)) ggX2_pass_X2_isIn
set_option maxRecDepth 20000 in
theorem ggX2_pass_X2_no : GoodIn wsX2_pass wsX2_no := goodIn_r _ [13, 1, 73, 74, 75, 76, 77, 78, 79, 80, 81, 82, 83, 84, 85, 86] (by decide +kernel) (by decide +kernel)
set_option maxRecDepth 20000 in
theorem gX2_pass_X2_no : GoodIn wsX2_pass (wsV RX2 90 RX2 yX2_no wsX2_no) := goodIn_app (goodIn_of _ (by decide +kernel)) ggX2_pass_X2_no
set_option maxRecDepth 20000 in
theorem ggX2_pass_X2_look : GoodIn wsX2_pass wsX2_look := goodIn_r _ [17, 18, 19, 20, 21, 22, 23, 24, 25, 26, 27, 8, 28, 29, 30, 31, 32, 33, 34, 6, 7, 9, 35, 36, 37, 38, 39, 40, 73, 74, 75, 76, 77, 78, 79, 80, 81, 82, 83, 84, 85, 86] (by decide +kernel) (by decide +kernel)
set_option maxRecDepth 20000 in
theorem gX2_pass_X2_look : GoodIn wsX2_pass (wsV RX2 100 RX2 yX2_look wsX2_look) := goodIn_app (goodIn_of _ (by decide +kernel)) ggX2_pass_X2_look
set_option maxRecDepth 20000 in
theorem ggX2_pass_X2_sum : GoodIn wsX2_pass wsX2_sum := goodIn_r _ [44, 45, 46, 47, 8, 48, 49, 50, 51, 52, 22, 20, 53, 54, 55, 56, 23, 57, 58, 59, 29, 30, 31, 32, 33, 34, 6, 7, 9, 60, 61, 62, 63, 18, 35, 36, 37, 73, 74, 75, 76, 77, 78, 79, 80, 81, 82, 83, 84, 85, 86] (by decide +kernel) (by decide +kernel)
set_option maxRecDepth 20000 in
theorem gX2_pass_X2_sum : GoodIn wsX2_pass (wsV RX2 107 RX2 yX2_sum wsX2_sum) := goodIn_app (goodIn_of _ (by decide +kernel)) ggX2_pass_X2_sum
set_option maxRecDepth 20000 in
theorem ggX2_pass_X2_leave : GoodIn wsX2_pass wsX2_leave := goodIn_r _ [67, 68, 53, 54, 55, 8, 56, 23, 20, 57, 58, 59, 29, 30, 31, 32, 33, 34, 6, 7, 9, 60, 61, 62, 63, 18, 35, 36, 37, 73, 74, 75, 76, 77, 78, 79, 80, 81, 82, 83, 84, 85, 86] (by decide +kernel) (by decide +kernel)
set_option maxRecDepth 20000 in
theorem gX2_pass_X2_leave : GoodIn wsX2_pass (wsV RX2 126 RX2 yX2_leave wsX2_leave) := goodIn_app (goodIn_of _ (by decide +kernel)) ggX2_pass_X2_leave
set_option maxRecDepth 20000 in
theorem ggX2_pass_X2_sink : GoodIn wsX2_pass wsX2_sink := goodIn_r _ [72, 68, 57, 58, 8, 59, 29, 30, 31, 32, 33, 34, 6, 7, 9, 73, 74, 75, 76, 77, 78, 79, 80, 81, 82, 83, 84, 85, 86] (by decide +kernel) (by decide +kernel)
set_option maxRecDepth 20000 in
theorem gX2_pass_X2_sink : GoodIn wsX2_pass (wsV RX2 129 RX2 yX2_sink wsX2_sink) := goodIn_app (goodIn_of _ (by decide +kernel)) ggX2_pass_X2_sink
theorem dX2_pass_0 : decode cX2_pass 0 = .ok (.aload_n 0, 1) := by decide +kernel
theorem dX2_pass_1 : decode cX2_pass 1 = .ok (.iconst 0, 1) := by decide +kernel
theorem dX2_pass_2 : decode cX2_pass 2 = .ok (.putfield 44, 3) := by decide +kernel
theorem dX2_pass_5 : decode cX2_pass 5 = .ok (.iload_n 1, 1) := by decide +kernel
theorem dX2_pass_6 : decode cX2_pass 6 = .ok (.iconst 1, 1) := by decide +kernel
theorem dX2_pass_7 : decode cX2_pass 7 = .ok (.bipush 60, 2) := by decide +kernel
theorem dX2_pass_9 : decode cX2_pass 9 = .ok (.invokestatic 47, 3) := by decide +kernel
theorem dX2_pass_12 : decode cX2_pass 12 = .ok (.ifCond .ne 9, 3) := by decide +kernel
theorem dX2_pass_15 : decode cX2_pass 15 = .ok (.aload_n 0, 1) := by decide +kernel
theorem dX2_pass_16 : decode cX2_pass 16 = .ok (.iconst 1, 1) := by decide +kernel
theorem dX2_pass_17 : decode cX2_pass 17 = .ok (.invokevirtual 90, 3) := by decide +kernel
theorem dX2_pass_20 : decode cX2_pass 20 = .ok (.ireturn, 1) := by decide +kernel
theorem dX2_pass_21 : decode cX2_pass 21 = .ok (.aload_n 0, 1) := by decide +kernel
theorem dX2_pass_22 : decode cX2_pass 22 = .ok (.getfield 7, 3) := by decide +kernel
theorem dX2_pass_25 : decode cX2_pass 25 = .ok (.istore_n 2, 1) := by decide +kernel
theorem dX2_pass_26 : decode cX2_pass 26 = .ok (.iconst 0, 1) := by decide +kernel
theorem dX2_pass_27 : decode cX2_pass 27 = .ok (.istore_n 3, 1) := by decide +kernel
theorem dX2_pass_28 : decode cX2_pass 28 = .ok (.iload_n 3, 1) := by decide +kernel
theorem dX2_pass_29 : decode cX2_pass 29 = .ok (.iload_n 1, 1) := by decide +kernel
theorem dX2_pass_30 : decode cX2_pass 30 = .ok (.if_icmp .ge 71, 3) := by decide +kernel
theorem dX2_pass_33 : decode cX2_pass 33 = .ok (.aload_n 0, 1) := by decide +kernel
theorem dX2_pass_34 : decode cX2_pass 34 = .ok (.aload_n 0, 1) := by decide +kernel
theorem dX2_pass_35 : decode cX2_pass 35 = .ok (.getfield 13, 3) := by decide +kernel
theorem dX2_pass_38 : decode cX2_pass 38 = .ok (.invokevirtual 100, 3) := by decide +kernel
theorem dX2_pass_41 : decode cX2_pass 41 = .ok (.pop, 1) := by decide +kernel
theorem dX2_pass_42 : decode cX2_pass 42 = .ok (.aload_n 0, 1) := by decide +kernel
theorem dX2_pass_43 : decode cX2_pass 43 = .ok (.dup, 1) := by decide +kernel
theorem dX2_pass_44 : decode cX2_pass 44 = .ok (.getfield 7, 3) := by decide +kernel
theorem dX2_pass_47 : decode cX2_pass 47 = .ok (.aload_n 0, 1) := by decide +kernel
theorem dX2_pass_48 : decode cX2_pass 48 = .ok (.aload_n 0, 1) := by decide +kernel
theorem dX2_pass_49 : decode cX2_pass 49 = .ok (.getfield 13, 3) := by decide +kernel
theorem dX2_pass_52 : decode cX2_pass 52 = .ok (.iconst 1, 1) := by decide +kernel
theorem dX2_pass_53 : decode cX2_pass 53 = .ok (.invokevirtual 107, 3) := by decide +kernel
theorem dX2_pass_56 : decode cX2_pass 56 = .ok (.iadd, 1) := by decide +kernel
theorem dX2_pass_57 : decode cX2_pass 57 = .ok (.putfield 7, 3) := by decide +kernel
theorem dX2_pass_60 : decode cX2_pass 60 = .ok (.aload_n 0, 1) := by decide +kernel
theorem dX2_pass_61 : decode cX2_pass 61 = .ok (.dup, 1) := by decide +kernel
theorem dX2_pass_62 : decode cX2_pass 62 = .ok (.getfield 117, 3) := by decide +kernel
theorem dX2_pass_65 : decode cX2_pass 65 = .ok (.aload_n 0, 1) := by decide +kernel
theorem dX2_pass_66 : decode cX2_pass 66 = .ok (.aload_n 0, 1) := by decide +kernel
theorem dX2_pass_67 : decode cX2_pass 67 = .ok (.getfield 13, 3) := by decide +kernel
theorem dX2_pass_70 : decode cX2_pass 70 = .ok (.invokevirtual 126, 3) := by decide +kernel
theorem dX2_pass_73 : decode cX2_pass 73 = .ok (.iadd, 1) := by decide +kernel
theorem dX2_pass_74 : decode cX2_pass 74 = .ok (.putfield 117, 3) := by decide +kernel
theorem dX2_pass_77 : decode cX2_pass 77 = .ok (.aload_n 0, 1) := by decide +kernel
theorem dX2_pass_78 : decode cX2_pass 78 = .ok (.aload_n 0, 1) := by decide +kernel
theorem dX2_pass_79 : decode cX2_pass 79 = .ok (.getfield 13, 3) := by decide +kernel
theorem dX2_pass_82 : decode cX2_pass 82 = .ok (.invokevirtual 129, 3) := by decide +kernel
theorem dX2_pass_85 : decode cX2_pass 85 = .ok (.aload_n 0, 1) := by decide +kernel
theorem dX2_pass_86 : decode cX2_pass 86 = .ok (.dup, 1) := by decide +kernel
theorem dX2_pass_87 : decode cX2_pass 87 = .ok (.getfield 114, 3) := by decide +kernel
theorem dX2_pass_90 : decode cX2_pass 90 = .ok (.iconst 1, 1) := by decide +kernel
theorem dX2_pass_91 : decode cX2_pass 91 = .ok (.iadd, 1) := by decide +kernel
theorem dX2_pass_92 : decode cX2_pass 92 = .ok (.putfield 114, 3) := by decide +kernel
theorem dX2_pass_95 : decode cX2_pass 95 = .ok (.iinc 3 1, 3) := by decide +kernel
theorem dX2_pass_98 : decode cX2_pass 98 = .ok (.goto (-70), 3) := by decide +kernel
theorem dX2_pass_101 : decode cX2_pass 101 = .ok (.aload_n 0, 1) := by decide +kernel
theorem dX2_pass_102 : decode cX2_pass 102 = .ok (.getfield 7, 3) := by decide +kernel
theorem dX2_pass_105 : decode cX2_pass 105 = .ok (.iload_n 2, 1) := by decide +kernel
theorem dX2_pass_106 : decode cX2_pass 106 = .ok (.isub, 1) := by decide +kernel
theorem dX2_pass_107 : decode cX2_pass 107 = .ok (.ireturn, 1) := by decide +kernel
set_option maxRecDepth 20000 in
theorem ggX2_foresee_X2_isIn : GoodIn wsX2_foresee wsX2_isIn := goodIn_r _ [14] (by decide +kernel) (by decide +kernel)
set_option maxRecDepth 20000 in
theorem gX2_foresee_X2_isIn : GoodIn wsX2_foresee (va_wsS RX2 47 yX2_isIn wsX2_isIn) := goodIn_app (goodIn_of _ (by decide +kernel)) ggX2_foresee_X2_isIn
set_option maxRecDepth 20000 in
theorem ggX2_foresee_X2_no : GoodIn wsX2_foresee wsX2_no := goodIn_r _ [18, 1, 85, 86, 87, 88, 89, 90, 91, 92, 93, 94, 95, 96, 97, 98] (by decide +kernel) (by decide +kernel)
set_option maxRecDepth 20000 in
theorem gX2_foresee_X2_no : GoodIn wsX2_foresee (wsV RX2 90 RX2 yX2_no wsX2_no) := goodIn_app (goodIn_of _ (by decide +kernel)) ggX2_foresee_X2_no
set_option maxRecDepth 20000 in
theorem ggX2_foresee_X2_look : GoodIn wsX2_foresee wsX2_look := goodIn_r _ [22, 23, 24, 25, 26, 27, 28, 29, 30, 31, 32, 13, 33, 34, 35, 36, 37, 38, 39, 11, 12, 14, 40, 41, 42, 43, 44, 45, 85, 86, 87, 88, 89, 90, 91, 92, 93, 94, 95, 96, 97, 98] (by decide +kernel) (by decide +kernel)
set_option maxRecDepth 20000 in
theorem gX2_foresee_X2_look : GoodIn wsX2_foresee (wsV RX2 100 RX2 yX2_look wsX2_look) := goodIn_app (goodIn_of _ (by decide +kernel)) ggX2_foresee_X2_look
set_option maxRecDepth 20000 in
theorem ggX2_foresee_X2_sum : GoodIn wsX2_foresee wsX2_sum := goodIn_r _ [49, 50, 51, 52, 13, 53, 54, 55, 56, 57, 27, 25, 58, 59, 60, 61, 28, 62, 63, 64, 34, 35, 36, 37, 38, 39, 11, 12, 14, 65, 66, 67, 68, 23, 40, 41, 42, 85, 86, 87, 88, 89, 90, 91, 92, 93, 94, 95, 96, 97, 98] (by decide +kernel) (by decide +kernel)
set_option maxRecDepth 20000 in
theorem gX2_foresee_X2_sum : GoodIn wsX2_foresee (wsV RX2 107 RX2 yX2_sum wsX2_sum) := goodIn_app (goodIn_of _ (by decide +kernel)) ggX2_foresee_X2_sum
set_option maxRecDepth 20000 in
theorem ggX2_foresee_X2_leave : GoodIn wsX2_foresee wsX2_leave := goodIn_r _ [72, 73, 58, 59, 60, 13, 61, 28, 25, 62, 63, 64, 34, 35, 36, 37, 38, 39, 11, 12, 14, 65, 66, 67, 68, 23, 40, 41, 42, 85, 86, 87, 88, 89, 90, 91, 92, 93, 94, 95, 96, 97, 98] (by decide +kernel) (by decide +kernel)
set_option maxRecDepth 20000 in
theorem gX2_foresee_X2_leave : GoodIn wsX2_foresee (wsV RX2 126 RX2 yX2_leave wsX2_leave) := goodIn_app (goodIn_of _ (by decide +kernel)) ggX2_foresee_X2_leave
set_option maxRecDepth 20000 in
theorem ggX2_foresee_X2_sink : GoodIn wsX2_foresee wsX2_sink := goodIn_r _ [77, 73, 62, 63, 13, 64, 34, 35, 36, 37, 38, 39, 11, 12, 14, 85, 86, 87, 88, 89, 90, 91, 92, 93, 94, 95, 96, 97, 98] (by decide +kernel) (by decide +kernel)
set_option maxRecDepth 20000 in
theorem gX2_foresee_X2_sink : GoodIn wsX2_foresee (wsV RX2 129 RX2 yX2_sink wsX2_sink) := goodIn_app (goodIn_of _ (by decide +kernel)) ggX2_foresee_X2_sink
set_option maxRecDepth 20000 in
theorem ggX2_foresee_X2_counted : GoodIn wsX2_foresee wsX2_counted := goodIn_r _ [81, 19, 20, 21, 13, 22, 23, 24, 25, 26, 27, 28, 29, 30, 31, 32, 33, 34, 35, 36, 37, 38, 39, 11, 12, 14, 40, 41, 42, 43, 44, 45, 46, 47, 48, 49, 50, 51, 52, 53, 54, 55, 56, 57, 58, 59, 60, 61, 62, 63, 64, 65, 66, 67, 68, 82, 83, 84, 85, 86, 87, 88, 89, 90, 91, 92, 93, 94, 95, 96, 97, 98] (by decide +kernel) (by decide +kernel)
set_option maxRecDepth 20000 in
theorem gX2_foresee_X2_counted : GoodIn wsX2_foresee (wsV RX2 120 RX2 yX2_counted wsX2_counted) := goodIn_app (goodIn_of _ (by decide +kernel)) ggX2_foresee_X2_counted
theorem dX2_foresee_0 : decode cX2_foresee 0 = .ok (.aload_n 0, 1) := by decide +kernel
theorem dX2_foresee_1 : decode cX2_foresee 1 = .ok (.iconst 0, 1) := by decide +kernel
theorem dX2_foresee_2 : decode cX2_foresee 2 = .ok (.putfield 44, 3) := by decide +kernel
theorem dX2_foresee_5 : decode cX2_foresee 5 = .ok (.iload_n 1, 1) := by decide +kernel
theorem dX2_foresee_6 : decode cX2_foresee 6 = .ok (.iconst 1, 1) := by decide +kernel
theorem dX2_foresee_7 : decode cX2_foresee 7 = .ok (.bipush 60, 2) := by decide +kernel
theorem dX2_foresee_9 : decode cX2_foresee 9 = .ok (.invokestatic 47, 3) := by decide +kernel
theorem dX2_foresee_12 : decode cX2_foresee 12 = .ok (.ifCond .ne 9, 3) := by decide +kernel
theorem dX2_foresee_15 : decode cX2_foresee 15 = .ok (.aload_n 0, 1) := by decide +kernel
theorem dX2_foresee_16 : decode cX2_foresee 16 = .ok (.iconst 1, 1) := by decide +kernel
theorem dX2_foresee_17 : decode cX2_foresee 17 = .ok (.invokevirtual 90, 3) := by decide +kernel
theorem dX2_foresee_20 : decode cX2_foresee 20 = .ok (.ireturn, 1) := by decide +kernel
theorem dX2_foresee_21 : decode cX2_foresee 21 = .ok (.iload_n 2, 1) := by decide +kernel
theorem dX2_foresee_22 : decode cX2_foresee 22 = .ok (.iconst 1, 1) := by decide +kernel
theorem dX2_foresee_23 : decode cX2_foresee 23 = .ok (.bipush 12, 2) := by decide +kernel
theorem dX2_foresee_25 : decode cX2_foresee 25 = .ok (.invokestatic 47, 3) := by decide +kernel
theorem dX2_foresee_28 : decode cX2_foresee 28 = .ok (.ifCond .ne 9, 3) := by decide +kernel
theorem dX2_foresee_31 : decode cX2_foresee 31 = .ok (.aload_n 0, 1) := by decide +kernel
theorem dX2_foresee_32 : decode cX2_foresee 32 = .ok (.iconst 2, 1) := by decide +kernel
theorem dX2_foresee_33 : decode cX2_foresee 33 = .ok (.invokevirtual 90, 3) := by decide +kernel
theorem dX2_foresee_36 : decode cX2_foresee 36 = .ok (.ireturn, 1) := by decide +kernel
theorem dX2_foresee_37 : decode cX2_foresee 37 = .ok (.aload_n 0, 1) := by decide +kernel
theorem dX2_foresee_38 : decode cX2_foresee 38 = .ok (.getfield 13, 3) := by decide +kernel
theorem dX2_foresee_41 : decode cX2_foresee 41 = .ok (.iconst 0, 1) := by decide +kernel
theorem dX2_foresee_42 : decode cX2_foresee 42 = .ok (.aload_n 0, 1) := by decide +kernel
theorem dX2_foresee_43 : decode cX2_foresee 43 = .ok (.getfield 17, 3) := by decide +kernel
theorem dX2_foresee_46 : decode cX2_foresee 46 = .ok (.iconst 0, 1) := by decide +kernel
theorem dX2_foresee_47 : decode cX2_foresee 47 = .ok (.bipush 64, 2) := by decide +kernel
theorem dX2_foresee_49 : decode cX2_foresee 49 = .ok (.invokestatic 133, 3) := by decide +kernel
theorem dX2_foresee_52 : decode cX2_foresee 52 = .ok (.aload_n 0, 1) := by decide +kernel
theorem dX2_foresee_53 : decode cX2_foresee 53 = .ok (.getfield 7, 3) := by decide +kernel
theorem dX2_foresee_56 : decode cX2_foresee 56 = .ok (.istore_n 3, 1) := by decide +kernel
theorem dX2_foresee_57 : decode cX2_foresee 57 = .ok (.aload_n 0, 1) := by decide +kernel
theorem dX2_foresee_58 : decode cX2_foresee 58 = .ok (.getfield 117, 3) := by decide +kernel
theorem dX2_foresee_61 : decode cX2_foresee 61 = .ok (.istore 4, 2) := by decide +kernel
theorem dX2_foresee_63 : decode cX2_foresee 63 = .ok (.iconst 0, 1) := by decide +kernel
theorem dX2_foresee_64 : decode cX2_foresee 64 = .ok (.istore 5, 2) := by decide +kernel
theorem dX2_foresee_66 : decode cX2_foresee 66 = .ok (.iload 5, 2) := by decide +kernel
theorem dX2_foresee_68 : decode cX2_foresee 68 = .ok (.iload_n 1, 1) := by decide +kernel
theorem dX2_foresee_69 : decode cX2_foresee 69 = .ok (.if_icmp .ge 51, 3) := by decide +kernel
theorem dX2_foresee_72 : decode cX2_foresee 72 = .ok (.aload_n 0, 1) := by decide +kernel
theorem dX2_foresee_73 : decode cX2_foresee 73 = .ok (.aload_n 0, 1) := by decide +kernel
theorem dX2_foresee_74 : decode cX2_foresee 74 = .ok (.getfield 17, 3) := by decide +kernel
theorem dX2_foresee_77 : decode cX2_foresee 77 = .ok (.invokevirtual 100, 3) := by decide +kernel
theorem dX2_foresee_80 : decode cX2_foresee 80 = .ok (.pop, 1) := by decide +kernel
theorem dX2_foresee_81 : decode cX2_foresee 81 = .ok (.iload_n 3, 1) := by decide +kernel
theorem dX2_foresee_82 : decode cX2_foresee 82 = .ok (.aload_n 0, 1) := by decide +kernel
theorem dX2_foresee_83 : decode cX2_foresee 83 = .ok (.aload_n 0, 1) := by decide +kernel
theorem dX2_foresee_84 : decode cX2_foresee 84 = .ok (.getfield 17, 3) := by decide +kernel
theorem dX2_foresee_87 : decode cX2_foresee 87 = .ok (.iconst 1, 1) := by decide +kernel
theorem dX2_foresee_88 : decode cX2_foresee 88 = .ok (.invokevirtual 107, 3) := by decide +kernel
theorem dX2_foresee_91 : decode cX2_foresee 91 = .ok (.iadd, 1) := by decide +kernel
theorem dX2_foresee_92 : decode cX2_foresee 92 = .ok (.istore_n 3, 1) := by decide +kernel
theorem dX2_foresee_93 : decode cX2_foresee 93 = .ok (.iload 4, 2) := by decide +kernel
theorem dX2_foresee_95 : decode cX2_foresee 95 = .ok (.aload_n 0, 1) := by decide +kernel
theorem dX2_foresee_96 : decode cX2_foresee 96 = .ok (.aload_n 0, 1) := by decide +kernel
theorem dX2_foresee_97 : decode cX2_foresee 97 = .ok (.getfield 17, 3) := by decide +kernel
theorem dX2_foresee_100 : decode cX2_foresee 100 = .ok (.invokevirtual 126, 3) := by decide +kernel
theorem dX2_foresee_103 : decode cX2_foresee 103 = .ok (.iadd, 1) := by decide +kernel
theorem dX2_foresee_104 : decode cX2_foresee 104 = .ok (.istore 4, 2) := by decide +kernel
theorem dX2_foresee_106 : decode cX2_foresee 106 = .ok (.aload_n 0, 1) := by decide +kernel
theorem dX2_foresee_107 : decode cX2_foresee 107 = .ok (.aload_n 0, 1) := by decide +kernel
theorem dX2_foresee_108 : decode cX2_foresee 108 = .ok (.getfield 17, 3) := by decide +kernel
theorem dX2_foresee_111 : decode cX2_foresee 111 = .ok (.invokevirtual 129, 3) := by decide +kernel
theorem dX2_foresee_114 : decode cX2_foresee 114 = .ok (.iinc 5 1, 3) := by decide +kernel
theorem dX2_foresee_117 : decode cX2_foresee 117 = .ok (.goto (-51), 3) := by decide +kernel
theorem dX2_foresee_120 : decode cX2_foresee 120 = .ok (.aload_n 0, 1) := by decide +kernel
theorem dX2_foresee_121 : decode cX2_foresee 121 = .ok (.aload_n 0, 1) := by decide +kernel
theorem dX2_foresee_122 : decode cX2_foresee 122 = .ok (.getfield 17, 3) := by decide +kernel
theorem dX2_foresee_125 : decode cX2_foresee 125 = .ok (.iload_n 2, 1) := by decide +kernel
theorem dX2_foresee_126 : decode cX2_foresee 126 = .ok (.aload_n 0, 1) := by decide +kernel
theorem dX2_foresee_127 : decode cX2_foresee 127 = .ok (.getfield 114, 3) := by decide +kernel
theorem dX2_foresee_130 : decode cX2_foresee 130 = .ok (.iload_n 1, 1) := by decide +kernel
theorem dX2_foresee_131 : decode cX2_foresee 131 = .ok (.iadd, 1) := by decide +kernel
theorem dX2_foresee_132 : decode cX2_foresee 132 = .ok (.iload_n 3, 1) := by decide +kernel
theorem dX2_foresee_133 : decode cX2_foresee 133 = .ok (.iload 4, 2) := by decide +kernel
theorem dX2_foresee_135 : decode cX2_foresee 135 = .ok (.invokevirtual 120, 3) := by decide +kernel
theorem dX2_foresee_138 : decode cX2_foresee 138 = .ok (.ireturn, 1) := by decide +kernel
set_option maxRecDepth 20000 in
theorem ggX2_duesWith_X2_look : GoodIn wsX2_duesWith wsX2_look := goodIn_r _ [11, 12, 13, 14, 15, 16, 17, 18, 19, 20, 21, 10, 22, 23, 24, 25, 26, 27, 28, 29, 30, 31, 32, 33, 34, 35, 36, 37, 61, 62, 63, 64, 65, 66, 67, 68, 69, 70, 71, 72, 73, 74] (by decide +kernel) (by decide +kernel)
set_option maxRecDepth 20000 in
theorem gX2_duesWith_X2_look : GoodIn wsX2_duesWith (wsV RX2 100 RX2 yX2_look wsX2_look) := goodIn_app (goodIn_of _ (by decide +kernel)) ggX2_duesWith_X2_look
set_option maxRecDepth 20000 in
theorem ggX2_duesWith_X2_sum : GoodIn wsX2_duesWith wsX2_sum := goodIn_r _ [41, 42, 43, 44, 10, 45, 46, 47, 48, 49, 16, 14, 50, 51, 52, 53, 17, 54, 55, 56, 23, 24, 25, 26, 27, 28, 29, 30, 31, 57, 58, 59, 60, 12, 32, 33, 34, 61, 62, 63, 64, 65, 66, 67, 68, 69, 70, 71, 72, 73, 74] (by decide +kernel) (by decide +kernel)
set_option maxRecDepth 20000 in
theorem gX2_duesWith_X2_sum : GoodIn wsX2_duesWith (wsV RX2 107 RX2 yX2_sum wsX2_sum) := goodIn_app (goodIn_of _ (by decide +kernel)) ggX2_duesWith_X2_sum
theorem dX2_duesWith_0 : decode cX2_duesWith 0 = .ok (.aload_n 0, 1) := by decide +kernel
theorem dX2_duesWith_1 : decode cX2_duesWith 1 = .ok (.getfield 13, 3) := by decide +kernel
theorem dX2_duesWith_4 : decode cX2_duesWith 4 = .ok (.iconst 0, 1) := by decide +kernel
theorem dX2_duesWith_5 : decode cX2_duesWith 5 = .ok (.aload_n 0, 1) := by decide +kernel
theorem dX2_duesWith_6 : decode cX2_duesWith 6 = .ok (.getfield 17, 3) := by decide +kernel
theorem dX2_duesWith_9 : decode cX2_duesWith 9 = .ok (.iconst 0, 1) := by decide +kernel
theorem dX2_duesWith_10 : decode cX2_duesWith 10 = .ok (.bipush 64, 2) := by decide +kernel
theorem dX2_duesWith_12 : decode cX2_duesWith 12 = .ok (.invokestatic 133, 3) := by decide +kernel
theorem dX2_duesWith_15 : decode cX2_duesWith 15 = .ok (.aload_n 0, 1) := by decide +kernel
theorem dX2_duesWith_16 : decode cX2_duesWith 16 = .ok (.getfield 17, 3) := by decide +kernel
theorem dX2_duesWith_19 : decode cX2_duesWith 19 = .ok (.iload_n 1, 1) := by decide +kernel
theorem dX2_duesWith_20 : decode cX2_duesWith 20 = .ok (.iload_n 2, 1) := by decide +kernel
theorem dX2_duesWith_21 : decode cX2_duesWith 21 = .ok (.iastore, 1) := by decide +kernel
theorem dX2_duesWith_22 : decode cX2_duesWith 22 = .ok (.aload_n 0, 1) := by decide +kernel
theorem dX2_duesWith_23 : decode cX2_duesWith 23 = .ok (.aload_n 0, 1) := by decide +kernel
theorem dX2_duesWith_24 : decode cX2_duesWith 24 = .ok (.getfield 17, 3) := by decide +kernel
theorem dX2_duesWith_27 : decode cX2_duesWith 27 = .ok (.invokevirtual 100, 3) := by decide +kernel
theorem dX2_duesWith_30 : decode cX2_duesWith 30 = .ok (.pop, 1) := by decide +kernel
theorem dX2_duesWith_31 : decode cX2_duesWith 31 = .ok (.aload_n 0, 1) := by decide +kernel
theorem dX2_duesWith_32 : decode cX2_duesWith 32 = .ok (.aload_n 0, 1) := by decide +kernel
theorem dX2_duesWith_33 : decode cX2_duesWith 33 = .ok (.getfield 17, 3) := by decide +kernel
theorem dX2_duesWith_36 : decode cX2_duesWith 36 = .ok (.iconst 1, 1) := by decide +kernel
theorem dX2_duesWith_37 : decode cX2_duesWith 37 = .ok (.invokevirtual 107, 3) := by decide +kernel
theorem dX2_duesWith_40 : decode cX2_duesWith 40 = .ok (.ireturn, 1) := by decide +kernel
set_option maxRecDepth 20000 in
theorem ggX2_would_X2_isPlace : GoodIn wsX2_would wsX2_isPlace := goodIn_r _ [6, 7, 8, 5, 9] (by decide +kernel) (by decide +kernel)
set_option maxRecDepth 20000 in
theorem gX2_would_X2_isPlace : GoodIn wsX2_would (va_wsS RX2 51 yX2_isPlace wsX2_isPlace) := goodIn_app (goodIn_of _ (by decide +kernel)) ggX2_would_X2_isPlace
set_option maxRecDepth 20000 in
theorem ggX2_would_X2_no : GoodIn wsX2_would wsX2_no := goodIn_r _ [13, 1, 70, 71, 72, 73, 74, 75, 76, 77, 78, 79, 80, 81, 82, 83] (by decide +kernel) (by decide +kernel)
set_option maxRecDepth 20000 in
theorem gX2_would_X2_no : GoodIn wsX2_would (wsV RX2 90 RX2 yX2_no wsX2_no) := goodIn_app (goodIn_of _ (by decide +kernel)) ggX2_would_X2_no
set_option maxRecDepth 20000 in
theorem ggX2_would_X2_isIn : GoodIn wsX2_would wsX2_isIn := goodIn_r _ [9] (by decide +kernel) (by decide +kernel)
set_option maxRecDepth 20000 in
theorem gX2_would_X2_isIn : GoodIn wsX2_would (va_wsS RX2 47 yX2_isIn wsX2_isIn) := goodIn_app (goodIn_of _ (by decide +kernel)) ggX2_would_X2_isIn
set_option maxRecDepth 20000 in
theorem ggX2_would_X2_duesWith : GoodIn wsX2_would wsX2_duesWith := goodIn_r _ [17, 2, 18, 19, 20, 21, 22, 23, 24, 25, 5, 26, 27, 28, 29, 30, 31, 32, 33, 34, 35, 36, 37, 38, 39, 40, 3, 4, 6, 7, 8, 9, 41, 42, 43, 44, 45, 46, 47, 48, 49, 50, 51, 52, 53, 54, 55, 56, 57, 58, 59, 60, 61, 62, 63, 64, 65, 66, 67, 68, 69, 70, 71, 72, 73, 74, 75, 76, 77, 78, 79, 80, 81, 82, 83] (by decide +kernel) (by decide +kernel)
set_option maxRecDepth 20000 in
theorem gX2_would_X2_duesWith : GoodIn wsX2_would (wsV RX2 139 RX2 yX2_duesWith wsX2_duesWith) := goodIn_app (goodIn_of _ (by decide +kernel)) ggX2_would_X2_duesWith
theorem dX2_would_0 : decode cX2_would 0 = .ok (.aload_n 0, 1) := by decide +kernel
theorem dX2_would_1 : decode cX2_would 1 = .ok (.iconst 0, 1) := by decide +kernel
theorem dX2_would_2 : decode cX2_would 2 = .ok (.putfield 44, 3) := by decide +kernel
theorem dX2_would_5 : decode cX2_would 5 = .ok (.iload_n 1, 1) := by decide +kernel
theorem dX2_would_6 : decode cX2_would 6 = .ok (.iload_n 2, 1) := by decide +kernel
theorem dX2_would_7 : decode cX2_would 7 = .ok (.invokestatic 51, 3) := by decide +kernel
theorem dX2_would_10 : decode cX2_would 10 = .ok (.ifCond .ne 9, 3) := by decide +kernel
theorem dX2_would_13 : decode cX2_would 13 = .ok (.aload_n 0, 1) := by decide +kernel
theorem dX2_would_14 : decode cX2_would 14 = .ok (.iconst 1, 1) := by decide +kernel
theorem dX2_would_15 : decode cX2_would 15 = .ok (.invokevirtual 90, 3) := by decide +kernel
theorem dX2_would_18 : decode cX2_would 18 = .ok (.ireturn, 1) := by decide +kernel
theorem dX2_would_19 : decode cX2_would 19 = .ok (.iload_n 3, 1) := by decide +kernel
theorem dX2_would_20 : decode cX2_would 20 = .ok (.iconst 3, 1) := by decide +kernel
theorem dX2_would_21 : decode cX2_would 21 = .ok (.iconst 5, 1) := by decide +kernel
theorem dX2_would_22 : decode cX2_would 22 = .ok (.invokestatic 47, 3) := by decide +kernel
theorem dX2_would_25 : decode cX2_would 25 = .ok (.ifCond .ne 9, 3) := by decide +kernel
theorem dX2_would_28 : decode cX2_would 28 = .ok (.aload_n 0, 1) := by decide +kernel
theorem dX2_would_29 : decode cX2_would 29 = .ok (.iconst 2, 1) := by decide +kernel
theorem dX2_would_30 : decode cX2_would 30 = .ok (.invokevirtual 90, 3) := by decide +kernel
theorem dX2_would_33 : decode cX2_would 33 = .ok (.ireturn, 1) := by decide +kernel
theorem dX2_would_34 : decode cX2_would 34 = .ok (.bipush 8, 2) := by decide +kernel
theorem dX2_would_36 : decode cX2_would 36 = .ok (.iload_n 2, 1) := by decide +kernel
theorem dX2_would_37 : decode cX2_would 37 = .ok (.imul, 1) := by decide +kernel
theorem dX2_would_38 : decode cX2_would 38 = .ok (.iload_n 1, 1) := by decide +kernel
theorem dX2_would_39 : decode cX2_would 39 = .ok (.iadd, 1) := by decide +kernel
theorem dX2_would_40 : decode cX2_would 40 = .ok (.istore 4, 2) := by decide +kernel
theorem dX2_would_42 : decode cX2_would 42 = .ok (.aload_n 0, 1) := by decide +kernel
theorem dX2_would_43 : decode cX2_would 43 = .ok (.getfield 13, 3) := by decide +kernel
theorem dX2_would_46 : decode cX2_would 46 = .ok (.iload 4, 2) := by decide +kernel
theorem dX2_would_48 : decode cX2_would 48 = .ok (.iaload, 1) := by decide +kernel
theorem dX2_would_49 : decode cX2_would 49 = .ok (.iconst 2, 1) := by decide +kernel
theorem dX2_would_50 : decode cX2_would 50 = .ok (.if_icmp .ne 21, 3) := by decide +kernel
theorem dX2_would_53 : decode cX2_would 53 = .ok (.aload_n 0, 1) := by decide +kernel
theorem dX2_would_54 : decode cX2_would 54 = .ok (.iload 4, 2) := by decide +kernel
theorem dX2_would_56 : decode cX2_would 56 = .ok (.iload_n 3, 1) := by decide +kernel
theorem dX2_would_57 : decode cX2_would 57 = .ok (.invokevirtual 139, 3) := by decide +kernel
theorem dX2_would_60 : decode cX2_would 60 = .ok (.aload_n 0, 1) := by decide +kernel
theorem dX2_would_61 : decode cX2_would 61 = .ok (.iload 4, 2) := by decide +kernel
theorem dX2_would_63 : decode cX2_would 63 = .ok (.iconst 2, 1) := by decide +kernel
theorem dX2_would_64 : decode cX2_would 64 = .ok (.invokevirtual 139, 3) := by decide +kernel
theorem dX2_would_67 : decode cX2_would 67 = .ok (.isub, 1) := by decide +kernel
theorem dX2_would_68 : decode cX2_would 68 = .ok (.goto 8, 3) := by decide +kernel
theorem dX2_would_71 : decode cX2_would 71 = .ok (.aload_n 0, 1) := by decide +kernel
theorem dX2_would_72 : decode cX2_would 72 = .ok (.iconst 3, 1) := by decide +kernel
theorem dX2_would_73 : decode cX2_would 73 = .ok (.invokevirtual 90, 3) := by decide +kernel
theorem dX2_would_76 : decode cX2_would 76 = .ok (.ireturn, 1) := by decide +kernel
set_option maxRecDepth 20000 in
theorem ggX2_best_X2_isIn : GoodIn wsX2_best wsX2_isIn := goodIn_r _ [6] (by decide +kernel) (by decide +kernel)
set_option maxRecDepth 20000 in
theorem gX2_best_X2_isIn : GoodIn wsX2_best (va_wsS RX2 47 yX2_isIn wsX2_isIn) := goodIn_app (goodIn_of _ (by decide +kernel)) ggX2_best_X2_isIn
set_option maxRecDepth 20000 in
theorem ggX2_best_X2_no : GoodIn wsX2_best wsX2_no := goodIn_r _ [10, 1, 70, 71, 72, 73, 74, 75, 76, 77, 78, 79, 80, 81, 82, 83] (by decide +kernel) (by decide +kernel)
set_option maxRecDepth 20000 in
theorem gX2_best_X2_no : GoodIn wsX2_best (wsV RX2 90 RX2 yX2_no wsX2_no) := goodIn_app (goodIn_of _ (by decide +kernel)) ggX2_best_X2_no
set_option maxRecDepth 20000 in
theorem ggX2_best_X2_duesWith : GoodIn wsX2_best wsX2_duesWith := goodIn_r _ [14, 2, 15, 16, 17, 18, 19, 20, 21, 22, 5, 23, 24, 25, 26, 27, 28, 29, 30, 31, 32, 33, 34, 35, 36, 37, 38, 39, 40, 3, 4, 6, 41, 42, 43, 44, 45, 46, 47, 48, 49, 50, 51, 52, 53, 54, 55, 56, 57, 58, 59, 60, 61, 62, 63, 64, 65, 66, 67, 68, 69, 70, 71, 72, 73, 74, 75, 76, 77, 78, 79, 80, 81, 82, 83] (by decide +kernel) (by decide +kernel)
set_option maxRecDepth 20000 in
theorem gX2_best_X2_duesWith : GoodIn wsX2_best (wsV RX2 139 RX2 yX2_duesWith wsX2_duesWith) := goodIn_app (goodIn_of _ (by decide +kernel)) ggX2_best_X2_duesWith
theorem dX2_best_0 : decode cX2_best 0 = .ok (.aload_n 0, 1) := by decide +kernel
theorem dX2_best_1 : decode cX2_best 1 = .ok (.iconst 0, 1) := by decide +kernel
theorem dX2_best_2 : decode cX2_best 2 = .ok (.putfield 44, 3) := by decide +kernel
theorem dX2_best_5 : decode cX2_best 5 = .ok (.iload_n 1, 1) := by decide +kernel
theorem dX2_best_6 : decode cX2_best 6 = .ok (.iconst 3, 1) := by decide +kernel
theorem dX2_best_7 : decode cX2_best 7 = .ok (.iconst 5, 1) := by decide +kernel
theorem dX2_best_8 : decode cX2_best 8 = .ok (.invokestatic 47, 3) := by decide +kernel
theorem dX2_best_11 : decode cX2_best 11 = .ok (.ifCond .ne 9, 3) := by decide +kernel
theorem dX2_best_14 : decode cX2_best 14 = .ok (.aload_n 0, 1) := by decide +kernel
theorem dX2_best_15 : decode cX2_best 15 = .ok (.iconst 1, 1) := by decide +kernel
theorem dX2_best_16 : decode cX2_best 16 = .ok (.invokevirtual 90, 3) := by decide +kernel
theorem dX2_best_19 : decode cX2_best 19 = .ok (.ireturn, 1) := by decide +kernel
theorem dX2_best_20 : decode cX2_best 20 = .ok (.iconst (-1), 1) := by decide +kernel
theorem dX2_best_21 : decode cX2_best 21 = .ok (.istore_n 2, 1) := by decide +kernel
theorem dX2_best_22 : decode cX2_best 22 = .ok (.iconst (-1), 1) := by decide +kernel
theorem dX2_best_23 : decode cX2_best 23 = .ok (.istore_n 3, 1) := by decide +kernel
theorem dX2_best_24 : decode cX2_best 24 = .ok (.iconst 0, 1) := by decide +kernel
theorem dX2_best_25 : decode cX2_best 25 = .ok (.istore 4, 2) := by decide +kernel
theorem dX2_best_27 : decode cX2_best 27 = .ok (.iload 4, 2) := by decide +kernel
theorem dX2_best_29 : decode cX2_best 29 = .ok (.bipush 64, 2) := by decide +kernel
theorem dX2_best_31 : decode cX2_best 31 = .ok (.if_icmp .ge 48, 3) := by decide +kernel
theorem dX2_best_34 : decode cX2_best 34 = .ok (.aload_n 0, 1) := by decide +kernel
theorem dX2_best_35 : decode cX2_best 35 = .ok (.getfield 13, 3) := by decide +kernel
theorem dX2_best_38 : decode cX2_best 38 = .ok (.iload 4, 2) := by decide +kernel
theorem dX2_best_40 : decode cX2_best 40 = .ok (.iaload, 1) := by decide +kernel
theorem dX2_best_41 : decode cX2_best 41 = .ok (.iconst 2, 1) := by decide +kernel
theorem dX2_best_42 : decode cX2_best 42 = .ok (.if_icmp .ne 13, 3) := by decide +kernel
theorem dX2_best_45 : decode cX2_best 45 = .ok (.aload_n 0, 1) := by decide +kernel
theorem dX2_best_46 : decode cX2_best 46 = .ok (.iload 4, 2) := by decide +kernel
theorem dX2_best_48 : decode cX2_best 48 = .ok (.iload_n 1, 1) := by decide +kernel
theorem dX2_best_49 : decode cX2_best 49 = .ok (.invokevirtual 139, 3) := by decide +kernel
theorem dX2_best_52 : decode cX2_best 52 = .ok (.goto 4, 3) := by decide +kernel
theorem dX2_best_55 : decode cX2_best 55 = .ok (.iconst (-1), 1) := by decide +kernel
theorem dX2_best_56 : decode cX2_best 56 = .ok (.istore 5, 2) := by decide +kernel
theorem dX2_best_58 : decode cX2_best 58 = .ok (.iload 5, 2) := by decide +kernel
theorem dX2_best_60 : decode cX2_best 60 = .ok (.iload_n 3, 1) := by decide +kernel
theorem dX2_best_61 : decode cX2_best 61 = .ok (.if_icmp .gt 6, 3) := by decide +kernel
theorem dX2_best_64 : decode cX2_best 64 = .ok (.goto 9, 3) := by decide +kernel
theorem dX2_best_67 : decode cX2_best 67 = .ok (.iload 5, 2) := by decide +kernel
theorem dX2_best_69 : decode cX2_best 69 = .ok (.istore_n 3, 1) := by decide +kernel
theorem dX2_best_70 : decode cX2_best 70 = .ok (.iload 4, 2) := by decide +kernel
theorem dX2_best_72 : decode cX2_best 72 = .ok (.istore_n 2, 1) := by decide +kernel
theorem dX2_best_73 : decode cX2_best 73 = .ok (.iinc 4 1, 3) := by decide +kernel
theorem dX2_best_76 : decode cX2_best 76 = .ok (.goto (-49), 3) := by decide +kernel
theorem dX2_best_79 : decode cX2_best 79 = .ok (.iload_n 2, 1) := by decide +kernel
theorem dX2_best_80 : decode cX2_best 80 = .ok (.ireturn, 1) := by decide +kernel
set_option maxRecDepth 20000 in
theorem ggX2_mean_X2_look : GoodIn wsX2_mean wsX2_look := goodIn_r _ [7, 8, 9, 10, 11, 12, 13, 14, 15, 16, 17, 6, 18, 19, 20, 21, 22, 23, 24, 25, 26, 27, 28, 29, 30, 31, 32, 33, 60, 61, 62, 63, 64, 65, 66, 67, 68, 69, 70, 71, 72, 73] (by decide +kernel) (by decide +kernel)
set_option maxRecDepth 20000 in
theorem gX2_mean_X2_look : GoodIn wsX2_mean (wsV RX2 100 RX2 yX2_look wsX2_look) := goodIn_app (goodIn_of _ (by decide +kernel)) ggX2_mean_X2_look
set_option maxRecDepth 20000 in
theorem ggX2_mean_X2_many : GoodIn wsX2_mean wsX2_many := goodIn_r _ [36] (by decide +kernel) (by decide +kernel)
set_option maxRecDepth 20000 in
theorem gX2_mean_X2_many : GoodIn wsX2_mean (va_wsS RX2 111 yX2_many wsX2_many) := goodIn_app (goodIn_of _ (by decide +kernel)) ggX2_mean_X2_many
set_option maxRecDepth 20000 in
theorem ggX2_mean_X2_sum : GoodIn wsX2_mean wsX2_sum := goodIn_r _ [40, 41, 42, 43, 6, 44, 45, 46, 47, 48, 12, 10, 49, 50, 51, 52, 13, 53, 54, 55, 19, 20, 21, 22, 23, 24, 25, 26, 27, 56, 57, 58, 59, 8, 28, 29, 30, 60, 61, 62, 63, 64, 65, 66, 67, 68, 69, 70, 71, 72, 73] (by decide +kernel) (by decide +kernel)
set_option maxRecDepth 20000 in
theorem gX2_mean_X2_sum : GoodIn wsX2_mean (wsV RX2 107 RX2 yX2_sum wsX2_sum) := goodIn_app (goodIn_of _ (by decide +kernel)) ggX2_mean_X2_sum
theorem dX2_mean_0 : decode cX2_mean 0 = .ok (.aload_n 0, 1) := by decide +kernel
theorem dX2_mean_1 : decode cX2_mean 1 = .ok (.iconst 0, 1) := by decide +kernel
theorem dX2_mean_2 : decode cX2_mean 2 = .ok (.putfield 44, 3) := by decide +kernel
theorem dX2_mean_5 : decode cX2_mean 5 = .ok (.aload_n 0, 1) := by decide +kernel
theorem dX2_mean_6 : decode cX2_mean 6 = .ok (.aload_n 0, 1) := by decide +kernel
theorem dX2_mean_7 : decode cX2_mean 7 = .ok (.getfield 13, 3) := by decide +kernel
theorem dX2_mean_10 : decode cX2_mean 10 = .ok (.invokevirtual 100, 3) := by decide +kernel
theorem dX2_mean_13 : decode cX2_mean 13 = .ok (.pop, 1) := by decide +kernel
theorem dX2_mean_14 : decode cX2_mean 14 = .ok (.aload_n 0, 1) := by decide +kernel
theorem dX2_mean_15 : decode cX2_mean 15 = .ok (.getfield 13, 3) := by decide +kernel
theorem dX2_mean_18 : decode cX2_mean 18 = .ok (.iconst 3, 1) := by decide +kernel
theorem dX2_mean_19 : decode cX2_mean 19 = .ok (.invokestatic 111, 3) := by decide +kernel
theorem dX2_mean_22 : decode cX2_mean 22 = .ok (.istore_n 1, 1) := by decide +kernel
theorem dX2_mean_23 : decode cX2_mean 23 = .ok (.iload_n 1, 1) := by decide +kernel
theorem dX2_mean_24 : decode cX2_mean 24 = .ok (.ifCond .ne 7, 3) := by decide +kernel
theorem dX2_mean_27 : decode cX2_mean 27 = .ok (.dconst 0, 1) := by decide +kernel
theorem dX2_mean_28 : decode cX2_mean 28 = .ok (.goto 16, 3) := by decide +kernel
theorem dX2_mean_31 : decode cX2_mean 31 = .ok (.aload_n 0, 1) := by decide +kernel
theorem dX2_mean_32 : decode cX2_mean 32 = .ok (.aload_n 0, 1) := by decide +kernel
theorem dX2_mean_33 : decode cX2_mean 33 = .ok (.getfield 13, 3) := by decide +kernel
theorem dX2_mean_36 : decode cX2_mean 36 = .ok (.iconst 0, 1) := by decide +kernel
theorem dX2_mean_37 : decode cX2_mean 37 = .ok (.invokevirtual 107, 3) := by decide +kernel
theorem dX2_mean_40 : decode cX2_mean 40 = .ok (.i2d, 1) := by decide +kernel
theorem dX2_mean_41 : decode cX2_mean 41 = .ok (.iload_n 1, 1) := by decide +kernel
theorem dX2_mean_42 : decode cX2_mean 42 = .ok (.i2d, 1) := by decide +kernel
theorem dX2_mean_43 : decode cX2_mean 43 = .ok (.ddiv, 1) := by decide +kernel
theorem dX2_mean_44 : decode cX2_mean 44 = .ok (.dreturn, 1) := by decide +kernel
set_option maxRecDepth 20000 in
theorem ggX2_digest_X2_counted_ : GoodIn wsX2_digest wsX2_counted_ := goodIn_r _ [9, 4, 10, 11, 12, 13, 14, 15, 8, 16, 17, 18, 19, 20, 21, 22, 23, 24, 25, 26, 27, 28, 29, 30, 31, 32, 33, 34, 35, 36, 37, 38, 39, 40, 41, 42, 43, 44, 45, 46, 47, 48, 49, 50, 51, 52, 53, 54, 55, 56, 57, 58, 59, 60, 61, 62, 63, 64, 65, 66, 67, 68, 69, 70, 71, 72, 77, 78, 79, 80, 81, 82, 83, 84, 85, 86, 87, 88, 89, 90] (by decide +kernel) (by decide +kernel)
set_option maxRecDepth 20000 in
theorem gX2_digest_X2_counted_ : GoodIn wsX2_digest (wsV RX2 124 RX2 yX2_counted_ wsX2_counted_) := goodIn_app (goodIn_of _ (by decide +kernel)) ggX2_digest_X2_counted_
set_option maxRecDepth 20000 in
theorem ggX2_digest_X2_look : GoodIn wsX2_digest wsX2_look := goodIn_r _ [20, 21, 22, 23, 24, 25, 26, 27, 28, 29, 30, 8, 31, 32, 33, 34, 35, 36, 37, 38, 39, 40, 41, 42, 43, 44, 45, 46, 77, 78, 79, 80, 81, 82, 83, 84, 85, 86, 87, 88, 89, 90] (by decide +kernel) (by decide +kernel)
set_option maxRecDepth 20000 in
theorem gX2_digest_X2_look : GoodIn wsX2_digest (wsV RX2 100 RX2 yX2_look wsX2_look) := goodIn_app (goodIn_of _ (by decide +kernel)) ggX2_digest_X2_look
set_option maxRecDepth 20000 in
theorem ggX2_digest_X2_lotTold : GoodIn wsX2_digest wsX2_lotTold := goodIn_r _ [76, 4, 23, 24, 21, 41, 42, 8, 43, 66, 67, 68, 69, 32, 33, 34, 35, 36, 37, 38, 39, 40, 59, 60, 61, 62, 26, 63, 64, 65, 51, 52, 53, 54, 55, 56, 57, 58, 25, 77, 78, 79, 80, 81, 82, 83, 84, 85, 86, 87, 88, 89, 90] (by decide +kernel) (by decide +kernel)
set_option maxRecDepth 20000 in
theorem gX2_digest_X2_lotTold : GoodIn wsX2_digest (wsV RX2 104 RX2 yX2_lotTold wsX2_lotTold) := goodIn_app (goodIn_of _ (by decide +kernel)) ggX2_digest_X2_lotTold
theorem dX2_digest_0 : decode cX2_digest 0 = .ok (.aload_n 0, 1) := by decide +kernel
theorem dX2_digest_1 : decode cX2_digest 1 = .ok (.iconst 0, 1) := by decide +kernel
theorem dX2_digest_2 : decode cX2_digest 2 = .ok (.putfield 44, 3) := by decide +kernel
theorem dX2_digest_5 : decode cX2_digest 5 = .ok (.ldc2_w 142, 3) := by decide +kernel
theorem dX2_digest_8 : decode cX2_digest 8 = .ok (.lstore_n 1, 1) := by decide +kernel
theorem dX2_digest_9 : decode cX2_digest 9 = .ok (.iconst 0, 1) := by decide +kernel
theorem dX2_digest_10 : decode cX2_digest 10 = .ok (.istore_n 3, 1) := by decide +kernel
theorem dX2_digest_11 : decode cX2_digest 11 = .ok (.iload_n 3, 1) := by decide +kernel
theorem dX2_digest_12 : decode cX2_digest 12 = .ok (.bipush 12, 2) := by decide +kernel
theorem dX2_digest_14 : decode cX2_digest 14 = .ok (.if_icmp .gt 22, 3) := by decide +kernel
theorem dX2_digest_17 : decode cX2_digest 17 = .ok (.lload_n 1, 1) := by decide +kernel
theorem dX2_digest_18 : decode cX2_digest 18 = .ok (.ldc2_w 144, 3) := by decide +kernel
theorem dX2_digest_21 : decode cX2_digest 21 = .ok (.lmul, 1) := by decide +kernel
theorem dX2_digest_22 : decode cX2_digest 22 = .ok (.aload_n 0, 1) := by decide +kernel
theorem dX2_digest_23 : decode cX2_digest 23 = .ok (.iload_n 3, 1) := by decide +kernel
theorem dX2_digest_24 : decode cX2_digest 24 = .ok (.invokevirtual 124, 3) := by decide +kernel
theorem dX2_digest_27 : decode cX2_digest 27 = .ok (.i2l, 1) := by decide +kernel
theorem dX2_digest_28 : decode cX2_digest 28 = .ok (.ladd, 1) := by decide +kernel
theorem dX2_digest_29 : decode cX2_digest 29 = .ok (.lstore_n 1, 1) := by decide +kernel
theorem dX2_digest_30 : decode cX2_digest 30 = .ok (.iinc 3 1, 3) := by decide +kernel
theorem dX2_digest_33 : decode cX2_digest 33 = .ok (.goto (-22), 3) := by decide +kernel
theorem dX2_digest_36 : decode cX2_digest 36 = .ok (.aload_n 0, 1) := by decide +kernel
theorem dX2_digest_37 : decode cX2_digest 37 = .ok (.aload_n 0, 1) := by decide +kernel
theorem dX2_digest_38 : decode cX2_digest 38 = .ok (.getfield 13, 3) := by decide +kernel
theorem dX2_digest_41 : decode cX2_digest 41 = .ok (.invokevirtual 100, 3) := by decide +kernel
theorem dX2_digest_44 : decode cX2_digest 44 = .ok (.pop, 1) := by decide +kernel
theorem dX2_digest_45 : decode cX2_digest 45 = .ok (.iconst 0, 1) := by decide +kernel
theorem dX2_digest_46 : decode cX2_digest 46 = .ok (.istore_n 3, 1) := by decide +kernel
theorem dX2_digest_47 : decode cX2_digest 47 = .ok (.iload_n 3, 1) := by decide +kernel
theorem dX2_digest_48 : decode cX2_digest 48 = .ok (.bipush 64, 2) := by decide +kernel
theorem dX2_digest_50 : decode cX2_digest 50 = .ok (.if_icmp .ge 39, 3) := by decide +kernel
theorem dX2_digest_53 : decode cX2_digest 53 = .ok (.iconst 0, 1) := by decide +kernel
theorem dX2_digest_54 : decode cX2_digest 54 = .ok (.istore 4, 2) := by decide +kernel
theorem dX2_digest_56 : decode cX2_digest 56 = .ok (.iload 4, 2) := by decide +kernel
theorem dX2_digest_58 : decode cX2_digest 58 = .ok (.iconst 5, 1) := by decide +kernel
theorem dX2_digest_59 : decode cX2_digest 59 = .ok (.if_icmp .gt 24, 3) := by decide +kernel
theorem dX2_digest_62 : decode cX2_digest 62 = .ok (.lload_n 1, 1) := by decide +kernel
theorem dX2_digest_63 : decode cX2_digest 63 = .ok (.ldc2_w 144, 3) := by decide +kernel
theorem dX2_digest_66 : decode cX2_digest 66 = .ok (.lmul, 1) := by decide +kernel
theorem dX2_digest_67 : decode cX2_digest 67 = .ok (.aload_n 0, 1) := by decide +kernel
theorem dX2_digest_68 : decode cX2_digest 68 = .ok (.iload_n 3, 1) := by decide +kernel
theorem dX2_digest_69 : decode cX2_digest 69 = .ok (.iload 4, 2) := by decide +kernel
theorem dX2_digest_71 : decode cX2_digest 71 = .ok (.invokevirtual 104, 3) := by decide +kernel
theorem dX2_digest_74 : decode cX2_digest 74 = .ok (.i2l, 1) := by decide +kernel
theorem dX2_digest_75 : decode cX2_digest 75 = .ok (.ladd, 1) := by decide +kernel
theorem dX2_digest_76 : decode cX2_digest 76 = .ok (.lstore_n 1, 1) := by decide +kernel
theorem dX2_digest_77 : decode cX2_digest 77 = .ok (.iinc 4 1, 3) := by decide +kernel
theorem dX2_digest_80 : decode cX2_digest 80 = .ok (.goto (-24), 3) := by decide +kernel
theorem dX2_digest_83 : decode cX2_digest 83 = .ok (.iinc 3 1, 3) := by decide +kernel
theorem dX2_digest_86 : decode cX2_digest 86 = .ok (.goto (-39), 3) := by decide +kernel
theorem dX2_digest_89 : decode cX2_digest 89 = .ok (.lload_n 1, 1) := by decide +kernel
theorem dX2_digest_90 : decode cX2_digest 90 = .ok (.lreturn, 1) := by decide +kernel

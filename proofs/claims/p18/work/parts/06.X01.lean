set_option maxRecDepth 20000 in
theorem ggX0_init_X0_survey : GoodIn wsX0_init wsX0_survey := goodIn_r _ [22, 13, 8, 14, 15, 23, 24, 25, 21, 26, 9, 10, 11, 12, 27, 28, 29, 30, 31, 32, 33, 34, 35, 36, 17, 37, 38, 39, 40, 41, 42, 43, 44, 45, 46, 47, 48, 49, 50, 51, 52, 53, 54, 55, 56, 57, 58, 59, 60, 61, 62, 63, 64, 65, 66, 67, 68, 69, 70, 71, 72, 73, 74, 75, 76, 77, 78, 79, 80, 81, 82, 83, 84, 85, 86, 87, 88, 89, 90, 91] (by decide +kernel) (by decide +kernel)
set_option maxRecDepth 20000 in
theorem gX0_init_X0_survey : GoodIn wsX0_init (wsV RX0 52 RX0 yX0_survey wsX0_survey) := goodIn_app (goodIn_of _ (by decide +kernel)) ggX0_init_X0_survey
theorem dX0_init_0 : decode cX0_init 0 = .ok (.aload_n 0, 1) := by decide +kernel
theorem dX0_init_1 : decode cX0_init 1 = .ok (.invokespecial 3, 3) := by decide +kernel
theorem dX0_init_4 : decode cX0_init 4 = .ok (.aload_n 0, 1) := by decide +kernel
theorem dX0_init_5 : decode cX0_init 5 = .ok (.iconst 0, 1) := by decide +kernel
theorem dX0_init_6 : decode cX0_init 6 = .ok (.putfield 9, 3) := by decide +kernel
theorem dX0_init_9 : decode cX0_init 9 = .ok (.aload_n 0, 1) := by decide +kernel
theorem dX0_init_10 : decode cX0_init 10 = .ok (.bipush 60, 2) := by decide +kernel
theorem dX0_init_12 : decode cX0_init 12 = .ok (.putfield 15, 3) := by decide +kernel
theorem dX0_init_15 : decode cX0_init 15 = .ok (.aload_n 0, 1) := by decide +kernel
theorem dX0_init_16 : decode cX0_init 16 = .ok (.iconst 0, 1) := by decide +kernel
theorem dX0_init_17 : decode cX0_init 17 = .ok (.putfield 18, 3) := by decide +kernel
theorem dX0_init_20 : decode cX0_init 20 = .ok (.aload_n 0, 1) := by decide +kernel
theorem dX0_init_21 : decode cX0_init 21 = .ok (.bipush 64, 2) := by decide +kernel
theorem dX0_init_23 : decode cX0_init 23 = .ok (.newarray .int, 2) := by decide +kernel
theorem dX0_init_25 : decode cX0_init 25 = .ok (.putfield 21, 3) := by decide +kernel
theorem dX0_init_28 : decode cX0_init 28 = .ok (.aload_n 0, 1) := by decide +kernel
theorem dX0_init_29 : decode cX0_init 29 = .ok (.bipush 64, 2) := by decide +kernel
theorem dX0_init_31 : decode cX0_init 31 = .ok (.newarray .int, 2) := by decide +kernel
theorem dX0_init_33 : decode cX0_init 33 = .ok (.putfield 25, 3) := by decide +kernel
theorem dX0_init_36 : decode cX0_init 36 = .ok (.aload_n 0, 1) := by decide +kernel
theorem dX0_init_37 : decode cX0_init 37 = .ok (.bipush 64, 2) := by decide +kernel
theorem dX0_init_39 : decode cX0_init 39 = .ok (.newarray .int, 2) := by decide +kernel
theorem dX0_init_41 : decode cX0_init 41 = .ok (.putfield 28, 3) := by decide +kernel
theorem dX0_init_44 : decode cX0_init 44 = .ok (.aload_n 0, 1) := by decide +kernel
theorem dX0_init_45 : decode cX0_init 45 = .ok (.bipush 64, 2) := by decide +kernel
theorem dX0_init_47 : decode cX0_init 47 = .ok (.newarray .int, 2) := by decide +kernel
theorem dX0_init_49 : decode cX0_init 49 = .ok (.putfield 31, 3) := by decide +kernel
theorem dX0_init_52 : decode cX0_init 52 = .ok (.aload_n 0, 1) := by decide +kernel
theorem dX0_init_53 : decode cX0_init 53 = .ok (.bipush 64, 2) := by decide +kernel
theorem dX0_init_55 : decode cX0_init 55 = .ok (.newarray .int, 2) := by decide +kernel
theorem dX0_init_57 : decode cX0_init 57 = .ok (.putfield 34, 3) := by decide +kernel
theorem dX0_init_60 : decode cX0_init 60 = .ok (.aload_n 0, 1) := by decide +kernel
theorem dX0_init_61 : decode cX0_init 61 = .ok (.bipush 64, 2) := by decide +kernel
theorem dX0_init_63 : decode cX0_init 63 = .ok (.newarray .int, 2) := by decide +kernel
theorem dX0_init_65 : decode cX0_init 65 = .ok (.putfield 37, 3) := by decide +kernel
theorem dX0_init_68 : decode cX0_init 68 = .ok (.aload_n 0, 1) := by decide +kernel
theorem dX0_init_69 : decode cX0_init 69 = .ok (.bipush 64, 2) := by decide +kernel
theorem dX0_init_71 : decode cX0_init 71 = .ok (.newarray .int, 2) := by decide +kernel
theorem dX0_init_73 : decode cX0_init 73 = .ok (.putfield 40, 3) := by decide +kernel
theorem dX0_init_76 : decode cX0_init 76 = .ok (.aload_n 0, 1) := by decide +kernel
theorem dX0_init_77 : decode cX0_init 77 = .ok (.bipush 64, 2) := by decide +kernel
theorem dX0_init_79 : decode cX0_init 79 = .ok (.newarray .int, 2) := by decide +kernel
theorem dX0_init_81 : decode cX0_init 81 = .ok (.putfield 43, 3) := by decide +kernel
theorem dX0_init_84 : decode cX0_init 84 = .ok (.aload_n 0, 1) := by decide +kernel
theorem dX0_init_85 : decode cX0_init 85 = .ok (.bipush 64, 2) := by decide +kernel
theorem dX0_init_87 : decode cX0_init 87 = .ok (.newarray .int, 2) := by decide +kernel
theorem dX0_init_89 : decode cX0_init 89 = .ok (.putfield 46, 3) := by decide +kernel
theorem dX0_init_92 : decode cX0_init 92 = .ok (.aload_n 0, 1) := by decide +kernel
theorem dX0_init_93 : decode cX0_init 93 = .ok (.bipush 64, 2) := by decide +kernel
theorem dX0_init_95 : decode cX0_init 95 = .ok (.newarray .int, 2) := by decide +kernel
theorem dX0_init_97 : decode cX0_init 97 = .ok (.putfield 49, 3) := by decide +kernel
theorem dX0_init_100 : decode cX0_init 100 = .ok (.iconst 0, 1) := by decide +kernel
theorem dX0_init_101 : decode cX0_init 101 = .ok (.istore_n 1, 1) := by decide +kernel
theorem dX0_init_102 : decode cX0_init 102 = .ok (.iload_n 1, 1) := by decide +kernel
theorem dX0_init_103 : decode cX0_init 103 = .ok (.bipush 8, 2) := by decide +kernel
theorem dX0_init_105 : decode cX0_init 105 = .ok (.if_icmp .ge 21, 3) := by decide +kernel
theorem dX0_init_108 : decode cX0_init 108 = .ok (.aload_n 0, 1) := by decide +kernel
theorem dX0_init_109 : decode cX0_init 109 = .ok (.getfield 21, 3) := by decide +kernel
theorem dX0_init_112 : decode cX0_init 112 = .ok (.bipush 8, 2) := by decide +kernel
theorem dX0_init_114 : decode cX0_init 114 = .ok (.iload_n 1, 1) := by decide +kernel
theorem dX0_init_115 : decode cX0_init 115 = .ok (.imul, 1) := by decide +kernel
theorem dX0_init_116 : decode cX0_init 116 = .ok (.iconst 3, 1) := by decide +kernel
theorem dX0_init_117 : decode cX0_init 117 = .ok (.iadd, 1) := by decide +kernel
theorem dX0_init_118 : decode cX0_init 118 = .ok (.iconst 1, 1) := by decide +kernel
theorem dX0_init_119 : decode cX0_init 119 = .ok (.iastore, 1) := by decide +kernel
theorem dX0_init_120 : decode cX0_init 120 = .ok (.iinc 1 1, 3) := by decide +kernel
theorem dX0_init_123 : decode cX0_init 123 = .ok (.goto (-21), 3) := by decide +kernel
theorem dX0_init_126 : decode cX0_init 126 = .ok (.aload_n 0, 1) := by decide +kernel
theorem dX0_init_127 : decode cX0_init 127 = .ok (.invokevirtual 52, 3) := by decide +kernel
theorem dX0_init_130 : decode cX0_init 130 = .ok (.return_, 1) := by decide +kernel
theorem dX0_become_0 : decode cX0_become 0 = .ok (.aload_n 0, 1) := by decide +kernel
theorem dX0_become_1 : decode cX0_become 1 = .ok (.aload_n 1, 1) := by decide +kernel
theorem dX0_become_2 : decode cX0_become 2 = .ok (.getfield 9, 3) := by decide +kernel
theorem dX0_become_5 : decode cX0_become 5 = .ok (.putfield 9, 3) := by decide +kernel
theorem dX0_become_8 : decode cX0_become 8 = .ok (.aload_n 0, 1) := by decide +kernel
theorem dX0_become_9 : decode cX0_become 9 = .ok (.aload_n 1, 1) := by decide +kernel
theorem dX0_become_10 : decode cX0_become 10 = .ok (.getfield 15, 3) := by decide +kernel
theorem dX0_become_13 : decode cX0_become 13 = .ok (.putfield 15, 3) := by decide +kernel
theorem dX0_become_16 : decode cX0_become 16 = .ok (.aload_n 0, 1) := by decide +kernel
theorem dX0_become_17 : decode cX0_become 17 = .ok (.aload_n 1, 1) := by decide +kernel
theorem dX0_become_18 : decode cX0_become 18 = .ok (.getfield 18, 3) := by decide +kernel
theorem dX0_become_21 : decode cX0_become 21 = .ok (.putfield 18, 3) := by decide +kernel
theorem dX0_become_24 : decode cX0_become 24 = .ok (.iconst 0, 1) := by decide +kernel
theorem dX0_become_25 : decode cX0_become 25 = .ok (.istore_n 2, 1) := by decide +kernel
theorem dX0_become_26 : decode cX0_become 26 = .ok (.iload_n 2, 1) := by decide +kernel
theorem dX0_become_27 : decode cX0_become 27 = .ok (.bipush 64, 2) := by decide +kernel
theorem dX0_become_29 : decode cX0_become 29 = .ok (.if_icmp .ge 21, 3) := by decide +kernel
theorem dX0_become_32 : decode cX0_become 32 = .ok (.aload_n 0, 1) := by decide +kernel
theorem dX0_become_33 : decode cX0_become 33 = .ok (.getfield 21, 3) := by decide +kernel
theorem dX0_become_36 : decode cX0_become 36 = .ok (.iload_n 2, 1) := by decide +kernel
theorem dX0_become_37 : decode cX0_become 37 = .ok (.aload_n 1, 1) := by decide +kernel
theorem dX0_become_38 : decode cX0_become 38 = .ok (.getfield 21, 3) := by decide +kernel
theorem dX0_become_41 : decode cX0_become 41 = .ok (.iload_n 2, 1) := by decide +kernel
theorem dX0_become_42 : decode cX0_become 42 = .ok (.iaload, 1) := by decide +kernel
theorem dX0_become_43 : decode cX0_become 43 = .ok (.iastore, 1) := by decide +kernel
theorem dX0_become_44 : decode cX0_become 44 = .ok (.iinc 2 1, 3) := by decide +kernel
theorem dX0_become_47 : decode cX0_become 47 = .ok (.goto (-21), 3) := by decide +kernel
theorem dX0_become_50 : decode cX0_become 50 = .ok (.return_, 1) := by decide +kernel
set_option maxRecDepth 20000 in
theorem ggX0_buy_X0_change : GoodIn wsX0_buy wsX0_change := goodIn_r _ [6, 7, 8, 9, 10, 5, 11, 12, 13, 14, 15, 16, 17, 18, 19, 20, 21, 22, 23, 24, 25, 26, 27, 28, 29, 30, 31, 32, 33, 34, 35, 36, 37, 38, 39, 40, 41, 42, 43, 44, 45, 46, 47, 48, 49, 50, 51, 52, 53, 54, 55, 56, 57, 58, 59, 60, 61, 62, 63, 64, 65, 66, 67, 68, 69, 70, 71, 72, 73, 74, 75, 76, 77, 78, 79, 80, 81, 82, 83, 84, 85, 86, 87, 88] (by decide +kernel) (by decide +kernel)
set_option maxRecDepth 20000 in
theorem gX0_buy_X0_change : GoodIn wsX0_buy (wsV RX0 55 RX0 yX0_change wsX0_change) := goodIn_app (goodIn_of _ (by decide +kernel)) ggX0_buy_X0_change
theorem dX0_buy_0 : decode cX0_buy 0 = .ok (.aload_n 0, 1) := by decide +kernel
theorem dX0_buy_1 : decode cX0_buy 1 = .ok (.dup, 1) := by decide +kernel
theorem dX0_buy_2 : decode cX0_buy 2 = .ok (.getfield 15, 3) := by decide +kernel
theorem dX0_buy_5 : decode cX0_buy 5 = .ok (.iload_n 3, 1) := by decide +kernel
theorem dX0_buy_6 : decode cX0_buy 6 = .ok (.isub, 1) := by decide +kernel
theorem dX0_buy_7 : decode cX0_buy 7 = .ok (.putfield 15, 3) := by decide +kernel
theorem dX0_buy_10 : decode cX0_buy 10 = .ok (.aload_n 0, 1) := by decide +kernel
theorem dX0_buy_11 : decode cX0_buy 11 = .ok (.iload_n 1, 1) := by decide +kernel
theorem dX0_buy_12 : decode cX0_buy 12 = .ok (.iload_n 2, 1) := by decide +kernel
theorem dX0_buy_13 : decode cX0_buy 13 = .ok (.invokevirtual 55, 3) := by decide +kernel
theorem dX0_buy_16 : decode cX0_buy 16 = .ok (.return_, 1) := by decide +kernel
set_option maxRecDepth 20000 in
theorem ggX0_change_X0_survey : GoodIn wsX0_change wsX0_survey := goodIn_r _ [6, 7, 1, 8, 9, 10, 11, 12, 5, 13, 14, 15, 16, 17, 18, 19, 20, 21, 22, 23, 24, 25, 26, 27, 28, 29, 30, 31, 32, 33, 34, 35, 36, 37, 38, 39, 40, 41, 42, 43, 44, 45, 46, 47, 48, 49, 50, 51, 52, 53, 54, 55, 56, 57, 58, 59, 60, 61, 62, 63, 64, 65, 66, 67, 68, 69, 70, 71, 72, 73, 74, 75, 76, 77, 78, 79, 80, 81, 82, 83] (by decide +kernel) (by decide +kernel)
set_option maxRecDepth 20000 in
theorem gX0_change_X0_survey : GoodIn wsX0_change (wsV RX0 52 RX0 yX0_survey wsX0_survey) := goodIn_app (goodIn_of _ (by decide +kernel)) ggX0_change_X0_survey
theorem dX0_change_0 : decode cX0_change 0 = .ok (.aload_n 0, 1) := by decide +kernel
theorem dX0_change_1 : decode cX0_change 1 = .ok (.getfield 21, 3) := by decide +kernel
theorem dX0_change_4 : decode cX0_change 4 = .ok (.iload_n 1, 1) := by decide +kernel
theorem dX0_change_5 : decode cX0_change 5 = .ok (.iload_n 2, 1) := by decide +kernel
theorem dX0_change_6 : decode cX0_change 6 = .ok (.iastore, 1) := by decide +kernel
theorem dX0_change_7 : decode cX0_change 7 = .ok (.aload_n 0, 1) := by decide +kernel
theorem dX0_change_8 : decode cX0_change 8 = .ok (.invokevirtual 52, 3) := by decide +kernel
theorem dX0_change_11 : decode cX0_change 11 = .ok (.return_, 1) := by decide +kernel
set_option maxRecDepth 20000 in
theorem ggX0_live_X0_duesOfAll : GoodIn wsX0_live wsX0_duesOfAll := goodIn_r _ [7, 8, 9, 10, 6, 11, 89, 90, 91, 92, 93, 94, 95, 96, 97, 98, 99, 100, 101] (by decide +kernel) (by decide +kernel)
set_option maxRecDepth 20000 in
theorem gX0_live_X0_duesOfAll : GoodIn wsX0_live (wsV RX0 59 RX0 yX0_duesOfAll wsX0_duesOfAll) := goodIn_app (goodIn_of _ (by decide +kernel)) ggX0_live_X0_duesOfAll
set_option maxRecDepth 20000 in
theorem ggX0_live_X0_leaveHouses : GoodIn wsX0_live wsX0_leaveHouses := goodIn_r _ [15, 16, 17, 18, 89, 90, 91, 92, 93, 94, 95, 96, 97, 98, 99, 100, 101] (by decide +kernel) (by decide +kernel)
set_option maxRecDepth 20000 in
theorem gX0_live_X0_leaveHouses : GoodIn wsX0_live (wsV RX0 63 RX0 yX0_leaveHouses wsX0_leaveHouses) := goodIn_app (goodIn_of _ (by decide +kernel)) ggX0_live_X0_leaveHouses
set_option maxRecDepth 20000 in
theorem ggX0_live_X0_sinkLots : GoodIn wsX0_live wsX0_sinkLots := goodIn_r _ [22, 16, 23, 24, 25, 26, 6, 27, 28, 29, 30, 31, 32, 89, 90, 91, 92, 93, 94, 95, 96, 97, 98, 99, 100, 101] (by decide +kernel) (by decide +kernel)
set_option maxRecDepth 20000 in
theorem gX0_live_X0_sinkLots : GoodIn wsX0_live (wsV RX0 66 RX0 yX0_sinkLots wsX0_sinkLots) := goodIn_app (goodIn_of _ (by decide +kernel)) ggX0_live_X0_sinkLots
set_option maxRecDepth 20000 in
theorem ggX0_live_X0_survey : GoodIn wsX0_live wsX0_survey := goodIn_r _ [36, 37, 16, 17, 8, 38, 39, 40, 6, 41, 42, 43, 44, 45, 46, 47, 48, 49, 29, 50, 51, 52, 53, 54, 23, 31, 32, 28, 30, 55, 56, 57, 58, 59, 60, 61, 62, 63, 64, 65, 66, 67, 68, 69, 70, 71, 72, 73, 74, 75, 76, 24, 25, 26, 27, 77, 78, 79, 80, 81, 82, 83, 84, 85, 86, 87, 88, 89, 90, 91, 92, 93, 94, 95, 96, 97, 98, 99, 100, 101] (by decide +kernel) (by decide +kernel)
set_option maxRecDepth 20000 in
theorem gX0_live_X0_survey : GoodIn wsX0_live (wsV RX0 52 RX0 yX0_survey wsX0_survey) := goodIn_app (goodIn_of _ (by decide +kernel)) ggX0_live_X0_survey
theorem dX0_live_0 : decode cX0_live 0 = .ok (.iconst 0, 1) := by decide +kernel
theorem dX0_live_1 : decode cX0_live 1 = .ok (.istore_n 2, 1) := by decide +kernel
theorem dX0_live_2 : decode cX0_live 2 = .ok (.iconst 0, 1) := by decide +kernel
theorem dX0_live_3 : decode cX0_live 3 = .ok (.istore_n 3, 1) := by decide +kernel
theorem dX0_live_4 : decode cX0_live 4 = .ok (.iload_n 3, 1) := by decide +kernel
theorem dX0_live_5 : decode cX0_live 5 = .ok (.iload_n 1, 1) := by decide +kernel
theorem dX0_live_6 : decode cX0_live 6 = .ok (.if_icmp .ge 53, 3) := by decide +kernel
theorem dX0_live_9 : decode cX0_live 9 = .ok (.aload_n 0, 1) := by decide +kernel
theorem dX0_live_10 : decode cX0_live 10 = .ok (.invokevirtual 59, 3) := by decide +kernel
theorem dX0_live_13 : decode cX0_live 13 = .ok (.istore 4, 2) := by decide +kernel
theorem dX0_live_15 : decode cX0_live 15 = .ok (.iload_n 2, 1) := by decide +kernel
theorem dX0_live_16 : decode cX0_live 16 = .ok (.iload 4, 2) := by decide +kernel
theorem dX0_live_18 : decode cX0_live 18 = .ok (.iadd, 1) := by decide +kernel
theorem dX0_live_19 : decode cX0_live 19 = .ok (.istore_n 2, 1) := by decide +kernel
theorem dX0_live_20 : decode cX0_live 20 = .ok (.aload_n 0, 1) := by decide +kernel
theorem dX0_live_21 : decode cX0_live 21 = .ok (.dup, 1) := by decide +kernel
theorem dX0_live_22 : decode cX0_live 22 = .ok (.getfield 15, 3) := by decide +kernel
theorem dX0_live_25 : decode cX0_live 25 = .ok (.iload 4, 2) := by decide +kernel
theorem dX0_live_27 : decode cX0_live 27 = .ok (.iadd, 1) := by decide +kernel
theorem dX0_live_28 : decode cX0_live 28 = .ok (.putfield 15, 3) := by decide +kernel
theorem dX0_live_31 : decode cX0_live 31 = .ok (.aload_n 0, 1) := by decide +kernel
theorem dX0_live_32 : decode cX0_live 32 = .ok (.invokevirtual 63, 3) := by decide +kernel
theorem dX0_live_35 : decode cX0_live 35 = .ok (.aload_n 0, 1) := by decide +kernel
theorem dX0_live_36 : decode cX0_live 36 = .ok (.invokevirtual 66, 3) := by decide +kernel
theorem dX0_live_39 : decode cX0_live 39 = .ok (.aload_n 0, 1) := by decide +kernel
theorem dX0_live_40 : decode cX0_live 40 = .ok (.invokevirtual 52, 3) := by decide +kernel
theorem dX0_live_43 : decode cX0_live 43 = .ok (.aload_n 0, 1) := by decide +kernel
theorem dX0_live_44 : decode cX0_live 44 = .ok (.dup, 1) := by decide +kernel
theorem dX0_live_45 : decode cX0_live 45 = .ok (.getfield 9, 3) := by decide +kernel
theorem dX0_live_48 : decode cX0_live 48 = .ok (.iconst 1, 1) := by decide +kernel
theorem dX0_live_49 : decode cX0_live 49 = .ok (.iadd, 1) := by decide +kernel
theorem dX0_live_50 : decode cX0_live 50 = .ok (.putfield 9, 3) := by decide +kernel
theorem dX0_live_53 : decode cX0_live 53 = .ok (.iinc 3 1, 3) := by decide +kernel
theorem dX0_live_56 : decode cX0_live 56 = .ok (.goto (-52), 3) := by decide +kernel
theorem dX0_live_59 : decode cX0_live 59 = .ok (.iload_n 2, 1) := by decide +kernel
theorem dX0_live_60 : decode cX0_live 60 = .ok (.ireturn, 1) := by decide +kernel
theorem dX0_leaveHouses_0 : decode cX0_leaveHouses 0 = .ok (.iconst 0, 1) := by decide +kernel
theorem dX0_leaveHouses_1 : decode cX0_leaveHouses 1 = .ok (.istore_n 1, 1) := by decide +kernel
theorem dX0_leaveHouses_2 : decode cX0_leaveHouses 2 = .ok (.iload_n 1, 1) := by decide +kernel
theorem dX0_leaveHouses_3 : decode cX0_leaveHouses 3 = .ok (.bipush 64, 2) := by decide +kernel
theorem dX0_leaveHouses_5 : decode cX0_leaveHouses 5 = .ok (.if_icmp .ge 46, 3) := by decide +kernel
theorem dX0_leaveHouses_8 : decode cX0_leaveHouses 8 = .ok (.aload_n 0, 1) := by decide +kernel
theorem dX0_leaveHouses_9 : decode cX0_leaveHouses 9 = .ok (.getfield 21, 3) := by decide +kernel
theorem dX0_leaveHouses_12 : decode cX0_leaveHouses 12 = .ok (.iload_n 1, 1) := by decide +kernel
theorem dX0_leaveHouses_13 : decode cX0_leaveHouses 13 = .ok (.iaload, 1) := by decide +kernel
theorem dX0_leaveHouses_14 : decode cX0_leaveHouses 14 = .ok (.iconst 3, 1) := by decide +kernel
theorem dX0_leaveHouses_15 : decode cX0_leaveHouses 15 = .ok (.if_icmp .ne 30, 3) := by decide +kernel
theorem dX0_leaveHouses_18 : decode cX0_leaveHouses 18 = .ok (.aload_n 0, 1) := by decide +kernel
theorem dX0_leaveHouses_19 : decode cX0_leaveHouses 19 = .ok (.getfield 40, 3) := by decide +kernel
theorem dX0_leaveHouses_22 : decode cX0_leaveHouses 22 = .ok (.iload_n 1, 1) := by decide +kernel
theorem dX0_leaveHouses_23 : decode cX0_leaveHouses 23 = .ok (.iaload, 1) := by decide +kernel
theorem dX0_leaveHouses_24 : decode cX0_leaveHouses 24 = .ok (.iconst 4, 1) := by decide +kernel
theorem dX0_leaveHouses_25 : decode cX0_leaveHouses 25 = .ok (.if_icmp .lt 20, 3) := by decide +kernel
theorem dX0_leaveHouses_28 : decode cX0_leaveHouses 28 = .ok (.aload_n 0, 1) := by decide +kernel
theorem dX0_leaveHouses_29 : decode cX0_leaveHouses 29 = .ok (.getfield 21, 3) := by decide +kernel
theorem dX0_leaveHouses_32 : decode cX0_leaveHouses 32 = .ok (.iload_n 1, 1) := by decide +kernel
theorem dX0_leaveHouses_33 : decode cX0_leaveHouses 33 = .ok (.iconst 2, 1) := by decide +kernel
theorem dX0_leaveHouses_34 : decode cX0_leaveHouses 34 = .ok (.iastore, 1) := by decide +kernel
theorem dX0_leaveHouses_35 : decode cX0_leaveHouses 35 = .ok (.aload_n 0, 1) := by decide +kernel
theorem dX0_leaveHouses_36 : decode cX0_leaveHouses 36 = .ok (.dup, 1) := by decide +kernel
theorem dX0_leaveHouses_37 : decode cX0_leaveHouses 37 = .ok (.getfield 18, 3) := by decide +kernel
theorem dX0_leaveHouses_40 : decode cX0_leaveHouses 40 = .ok (.iconst 1, 1) := by decide +kernel
theorem dX0_leaveHouses_41 : decode cX0_leaveHouses 41 = .ok (.iadd, 1) := by decide +kernel
theorem dX0_leaveHouses_42 : decode cX0_leaveHouses 42 = .ok (.putfield 18, 3) := by decide +kernel
theorem dX0_leaveHouses_45 : decode cX0_leaveHouses 45 = .ok (.iinc 1 1, 3) := by decide +kernel
theorem dX0_leaveHouses_48 : decode cX0_leaveHouses 48 = .ok (.goto (-46), 3) := by decide +kernel
theorem dX0_leaveHouses_51 : decode cX0_leaveHouses 51 = .ok (.return_, 1) := by decide +kernel
set_option maxRecDepth 20000 in
theorem ggX0_sinkLots_X0_neighboursOfKind : GoodIn wsX0_sinkLots wsX0_neighboursOfKind := goodIn_r _ [7, 1, 8, 9, 10, 11, 12, 13, 14, 15, 16, 17, 18, 19, 20, 21, 22, 23, 24, 25] (by decide +kernel) (by decide +kernel)
set_option maxRecDepth 20000 in
theorem gX0_sinkLots_X0_neighboursOfKind : GoodIn wsX0_sinkLots (wsV RX0 69 RX0 yX0_neighboursOfKind wsX0_neighboursOfKind) := goodIn_app (goodIn_of _ (by decide +kernel)) ggX0_sinkLots_X0_neighboursOfKind
set_option maxRecDepth 20000 in
theorem ggX0_sinkLots_X1_isLot : GoodIn wsX0_sinkLots wsX1_isLot := goodIn_r _ [12] (by decide +kernel) (by decide +kernel)
set_option maxRecDepth 20000 in
theorem gX0_sinkLots_X1_isLot_n73 : GoodIn wsX0_sinkLots (wsX1_isLot) := ggX0_sinkLots_X1_isLot
theorem dX0_sinkLots_0 : decode cX0_sinkLots 0 = .ok (.iconst 0, 1) := by decide +kernel
theorem dX0_sinkLots_1 : decode cX0_sinkLots 1 = .ok (.istore_n 1, 1) := by decide +kernel
theorem dX0_sinkLots_2 : decode cX0_sinkLots 2 = .ok (.iconst 0, 1) := by decide +kernel
theorem dX0_sinkLots_3 : decode cX0_sinkLots 3 = .ok (.istore_n 2, 1) := by decide +kernel
theorem dX0_sinkLots_4 : decode cX0_sinkLots 4 = .ok (.iload_n 2, 1) := by decide +kernel
theorem dX0_sinkLots_5 : decode cX0_sinkLots 5 = .ok (.bipush 64, 2) := by decide +kernel
theorem dX0_sinkLots_7 : decode cX0_sinkLots 7 = .ok (.if_icmp .ge 39, 3) := by decide +kernel
theorem dX0_sinkLots_10 : decode cX0_sinkLots 10 = .ok (.aload_n 0, 1) := by decide +kernel
theorem dX0_sinkLots_11 : decode cX0_sinkLots 11 = .ok (.getfield 21, 3) := by decide +kernel
theorem dX0_sinkLots_14 : decode cX0_sinkLots 14 = .ok (.iload_n 2, 1) := by decide +kernel
theorem dX0_sinkLots_15 : decode cX0_sinkLots 15 = .ok (.iaload, 1) := by decide +kernel
theorem dX0_sinkLots_16 : decode cX0_sinkLots 16 = .ok (.iconst 2, 1) := by decide +kernel
theorem dX0_sinkLots_17 : decode cX0_sinkLots 17 = .ok (.if_icmp .ne 23, 3) := by decide +kernel
theorem dX0_sinkLots_20 : decode cX0_sinkLots 20 = .ok (.aload_n 0, 1) := by decide +kernel
theorem dX0_sinkLots_21 : decode cX0_sinkLots 21 = .ok (.iload_n 2, 1) := by decide +kernel
theorem dX0_sinkLots_22 : decode cX0_sinkLots 22 = .ok (.iconst 0, 1) := by decide +kernel
theorem dX0_sinkLots_23 : decode cX0_sinkLots 23 = .ok (.invokevirtual 69, 3) := by decide +kernel
theorem dX0_sinkLots_26 : decode cX0_sinkLots 26 = .ok (.iconst 3, 1) := by decide +kernel
theorem dX0_sinkLots_27 : decode cX0_sinkLots 27 = .ok (.if_icmp .lt 13, 3) := by decide +kernel
theorem dX0_sinkLots_30 : decode cX0_sinkLots 30 = .ok (.aload_n 0, 1) := by decide +kernel
theorem dX0_sinkLots_31 : decode cX0_sinkLots 31 = .ok (.getfield 49, 3) := by decide +kernel
theorem dX0_sinkLots_34 : decode cX0_sinkLots 34 = .ok (.iload_n 1, 1) := by decide +kernel
theorem dX0_sinkLots_35 : decode cX0_sinkLots 35 = .ok (.iload_n 2, 1) := by decide +kernel
theorem dX0_sinkLots_36 : decode cX0_sinkLots 36 = .ok (.iastore, 1) := by decide +kernel
theorem dX0_sinkLots_37 : decode cX0_sinkLots 37 = .ok (.iinc 1 1, 3) := by decide +kernel
theorem dX0_sinkLots_40 : decode cX0_sinkLots 40 = .ok (.iinc 2 1, 3) := by decide +kernel
theorem dX0_sinkLots_43 : decode cX0_sinkLots 43 = .ok (.goto (-39), 3) := by decide +kernel
theorem dX0_sinkLots_46 : decode cX0_sinkLots 46 = .ok (.iconst 0, 1) := by decide +kernel
theorem dX0_sinkLots_47 : decode cX0_sinkLots 47 = .ok (.istore_n 2, 1) := by decide +kernel
theorem dX0_sinkLots_48 : decode cX0_sinkLots 48 = .ok (.iload_n 2, 1) := by decide +kernel
theorem dX0_sinkLots_49 : decode cX0_sinkLots 49 = .ok (.iload_n 1, 1) := by decide +kernel
theorem dX0_sinkLots_50 : decode cX0_sinkLots 50 = .ok (.if_icmp .ge 36, 3) := by decide +kernel
theorem dX0_sinkLots_53 : decode cX0_sinkLots 53 = .ok (.iload_n 2, 1) := by decide +kernel
theorem dX0_sinkLots_54 : decode cX0_sinkLots 54 = .ok (.bipush 64, 2) := by decide +kernel
theorem dX0_sinkLots_56 : decode cX0_sinkLots 56 = .ok (.if_icmp .ge 30, 3) := by decide +kernel
theorem dX0_sinkLots_59 : decode cX0_sinkLots 59 = .ok (.aload_n 0, 1) := by decide +kernel
theorem dX0_sinkLots_60 : decode cX0_sinkLots 60 = .ok (.getfield 49, 3) := by decide +kernel
theorem dX0_sinkLots_63 : decode cX0_sinkLots 63 = .ok (.iload_n 2, 1) := by decide +kernel
theorem dX0_sinkLots_64 : decode cX0_sinkLots 64 = .ok (.iaload, 1) := by decide +kernel
theorem dX0_sinkLots_65 : decode cX0_sinkLots 65 = .ok (.istore_n 3, 1) := by decide +kernel
theorem dX0_sinkLots_66 : decode cX0_sinkLots 66 = .ok (.iload_n 3, 1) := by decide +kernel
theorem dX0_sinkLots_67 : decode cX0_sinkLots 67 = .ok (.invokestatic 73, 3) := by decide +kernel
theorem dX0_sinkLots_70 : decode cX0_sinkLots 70 = .ok (.ifCond .eq 10, 3) := by decide +kernel
theorem dX0_sinkLots_73 : decode cX0_sinkLots 73 = .ok (.aload_n 0, 1) := by decide +kernel
theorem dX0_sinkLots_74 : decode cX0_sinkLots 74 = .ok (.getfield 21, 3) := by decide +kernel
theorem dX0_sinkLots_77 : decode cX0_sinkLots 77 = .ok (.iload_n 3, 1) := by decide +kernel
theorem dX0_sinkLots_78 : decode cX0_sinkLots 78 = .ok (.iconst 0, 1) := by decide +kernel
theorem dX0_sinkLots_79 : decode cX0_sinkLots 79 = .ok (.iastore, 1) := by decide +kernel
theorem dX0_sinkLots_80 : decode cX0_sinkLots 80 = .ok (.iinc 2 1, 3) := by decide +kernel
theorem dX0_sinkLots_83 : decode cX0_sinkLots 83 = .ok (.goto (-35), 3) := by decide +kernel
theorem dX0_sinkLots_86 : decode cX0_sinkLots 86 = .ok (.return_, 1) := by decide +kernel
set_option maxRecDepth 20000 in
theorem ggX0_survey_X0_surveyQuarters : GoodIn wsX0_survey wsX0_surveyQuarters := goodIn_r _ [9, 10, 11, 12, 13, 2, 14, 15, 8, 16, 17, 18, 19, 20, 21, 22, 23, 24, 25, 26, 27, 28, 29, 30, 31, 32, 33, 34, 67, 68, 69, 70, 71, 72, 73, 74, 75, 76, 77, 78, 79] (by decide +kernel) (by decide +kernel)
set_option maxRecDepth 20000 in
theorem gX0_survey_X0_surveyQuarters : GoodIn wsX0_survey (wsV RX0 77 RX0 yX0_surveyQuarters wsX0_surveyQuarters) := goodIn_app (goodIn_of _ (by decide +kernel)) ggX0_survey_X0_surveyQuarters
set_option maxRecDepth 20000 in
theorem ggX0_survey_X0_clear : GoodIn wsX0_survey wsX0_clear := goodIn_r _ [16] (by decide +kernel) (by decide +kernel)
set_option maxRecDepth 20000 in
theorem gX0_survey_X0_clear : GoodIn wsX0_survey (va_wsS RX0 80 yX0_clear wsX0_clear) := goodIn_app (goodIn_of _ (by decide +kernel)) ggX0_survey_X0_clear
set_option maxRecDepth 20000 in
theorem ggX0_survey_X1_isWater : GoodIn wsX0_survey wsX1_isWater := goodIn_r _ [30] (by decide +kernel) (by decide +kernel)
set_option maxRecDepth 20000 in
theorem gX0_survey_X1_isWater_n84 : GoodIn wsX0_survey (wsX1_isWater) := ggX0_survey_X1_isWater
set_option maxRecDepth 20000 in
theorem ggX0_survey_X0_spread : GoodIn wsX0_survey wsX0_spread := goodIn_r _ [23, 24, 2, 25, 18, 26, 27, 28, 17, 19, 29, 30, 67, 68, 69, 70, 71, 72, 73, 74, 75, 76, 77, 78, 79] (by decide +kernel) (by decide +kernel)
set_option maxRecDepth 20000 in
theorem gX0_survey_X0_spread : GoodIn wsX0_survey (wsV RX0 87 RX0 yX0_spread wsX0_spread) := goodIn_app (goodIn_of _ (by decide +kernel)) ggX0_survey_X0_spread
set_option maxRecDepth 20000 in
theorem ggX0_survey_X0_complaintsAt : GoodIn wsX0_survey wsX0_complaintsAt := goodIn_r _ [38, 2, 39, 40, 41, 8, 42, 10, 13, 25, 18, 26, 43, 44, 45, 46, 17, 19, 27, 28, 47, 48, 49, 50, 1, 51, 52, 53, 54, 67, 68, 69, 70, 71, 72, 73, 74, 75, 76, 77, 78, 79] (by decide +kernel) (by decide +kernel)
set_option maxRecDepth 20000 in
theorem gX0_survey_X0_complaintsAt : GoodIn wsX0_survey (wsV RX0 91 RX0 yX0_complaintsAt wsX0_complaintsAt) := goodIn_app (goodIn_of _ (by decide +kernel)) ggX0_survey_X0_complaintsAt
set_option maxRecDepth 20000 in
theorem ggX0_survey_X0_duesAt : GoodIn wsX0_survey wsX0_duesAt := goodIn_r _ [58, 2, 3, 59, 60, 61, 62, 43, 44, 45, 8, 46, 17, 18, 19, 27, 28, 25, 26, 47, 48, 49, 50, 1, 63, 64, 65, 66, 10, 12, 67, 68, 69, 70, 71, 72, 73, 74, 75, 76, 77, 78, 79] (by decide +kernel) (by decide +kernel)
set_option maxRecDepth 20000 in
theorem gX0_survey_X0_duesAt : GoodIn wsX0_survey (wsV RX0 95 RX0 yX0_duesAt wsX0_duesAt) := goodIn_app (goodIn_of _ (by decide +kernel)) ggX0_survey_X0_duesAt
theorem dX0_survey_0 : decode cX0_survey 0 = .ok (.aload_n 0, 1) := by decide +kernel
theorem dX0_survey_1 : decode cX0_survey 1 = .ok (.invokevirtual 77, 3) := by decide +kernel
theorem dX0_survey_4 : decode cX0_survey 4 = .ok (.aload_n 0, 1) := by decide +kernel
theorem dX0_survey_5 : decode cX0_survey 5 = .ok (.getfield 37, 3) := by decide +kernel
theorem dX0_survey_8 : decode cX0_survey 8 = .ok (.iconst (-1), 1) := by decide +kernel
theorem dX0_survey_9 : decode cX0_survey 9 = .ok (.invokestatic 80, 3) := by decide +kernel
theorem dX0_survey_12 : decode cX0_survey 12 = .ok (.aload_n 0, 1) := by decide +kernel
theorem dX0_survey_13 : decode cX0_survey 13 = .ok (.getfield 21, 3) := by decide +kernel
theorem dX0_survey_16 : decode cX0_survey 16 = .ok (.iconst 3, 1) := by decide +kernel
theorem dX0_survey_17 : decode cX0_survey 17 = .ok (.iaload, 1) := by decide +kernel
theorem dX0_survey_18 : decode cX0_survey 18 = .ok (.invokestatic 84, 3) := by decide +kernel
theorem dX0_survey_21 : decode cX0_survey 21 = .ok (.ifCond .eq 15, 3) := by decide +kernel
theorem dX0_survey_24 : decode cX0_survey 24 = .ok (.aload_n 0, 1) := by decide +kernel
theorem dX0_survey_25 : decode cX0_survey 25 = .ok (.aload_n 0, 1) := by decide +kernel
theorem dX0_survey_26 : decode cX0_survey 26 = .ok (.getfield 37, 3) := by decide +kernel
theorem dX0_survey_29 : decode cX0_survey 29 = .ok (.iconst 3, 1) := by decide +kernel
theorem dX0_survey_30 : decode cX0_survey 30 = .ok (.iconst 0, 1) := by decide +kernel
theorem dX0_survey_31 : decode cX0_survey 31 = .ok (.iconst 0, 1) := by decide +kernel
theorem dX0_survey_32 : decode cX0_survey 32 = .ok (.iconst 1, 1) := by decide +kernel
theorem dX0_survey_33 : decode cX0_survey 33 = .ok (.invokevirtual 87, 3) := by decide +kernel
theorem dX0_survey_36 : decode cX0_survey 36 = .ok (.iconst 0, 1) := by decide +kernel
theorem dX0_survey_37 : decode cX0_survey 37 = .ok (.istore_n 1, 1) := by decide +kernel
theorem dX0_survey_38 : decode cX0_survey 38 = .ok (.iload_n 1, 1) := by decide +kernel
theorem dX0_survey_39 : decode cX0_survey 39 = .ok (.bipush 64, 2) := by decide +kernel
theorem dX0_survey_41 : decode cX0_survey 41 = .ok (.if_icmp .ge 31, 3) := by decide +kernel
theorem dX0_survey_44 : decode cX0_survey 44 = .ok (.aload_n 0, 1) := by decide +kernel
theorem dX0_survey_45 : decode cX0_survey 45 = .ok (.getfield 40, 3) := by decide +kernel
theorem dX0_survey_48 : decode cX0_survey 48 = .ok (.iload_n 1, 1) := by decide +kernel
theorem dX0_survey_49 : decode cX0_survey 49 = .ok (.aload_n 0, 1) := by decide +kernel
theorem dX0_survey_50 : decode cX0_survey 50 = .ok (.iload_n 1, 1) := by decide +kernel
theorem dX0_survey_51 : decode cX0_survey 51 = .ok (.invokevirtual 91, 3) := by decide +kernel
theorem dX0_survey_54 : decode cX0_survey 54 = .ok (.iastore, 1) := by decide +kernel
theorem dX0_survey_55 : decode cX0_survey 55 = .ok (.aload_n 0, 1) := by decide +kernel
theorem dX0_survey_56 : decode cX0_survey 56 = .ok (.getfield 43, 3) := by decide +kernel
theorem dX0_survey_59 : decode cX0_survey 59 = .ok (.iload_n 1, 1) := by decide +kernel
theorem dX0_survey_60 : decode cX0_survey 60 = .ok (.aload_n 0, 1) := by decide +kernel
theorem dX0_survey_61 : decode cX0_survey 61 = .ok (.iload_n 1, 1) := by decide +kernel
theorem dX0_survey_62 : decode cX0_survey 62 = .ok (.invokevirtual 95, 3) := by decide +kernel
theorem dX0_survey_65 : decode cX0_survey 65 = .ok (.iastore, 1) := by decide +kernel
theorem dX0_survey_66 : decode cX0_survey 66 = .ok (.iinc 1 1, 3) := by decide +kernel
theorem dX0_survey_69 : decode cX0_survey 69 = .ok (.goto (-31), 3) := by decide +kernel
theorem dX0_survey_72 : decode cX0_survey 72 = .ok (.return_, 1) := by decide +kernel
set_option maxRecDepth 20000 in
theorem ggX0_surveyQuarters_X0_clear : GoodIn wsX0_surveyQuarters wsX0_clear := goodIn_r _ [9] (by decide +kernel) (by decide +kernel)
set_option maxRecDepth 20000 in
theorem gX0_surveyQuarters_X0_clear : GoodIn wsX0_surveyQuarters (va_wsS RX0 80 yX0_clear wsX0_clear) := goodIn_app (goodIn_of _ (by decide +kernel)) ggX0_surveyQuarters_X0_clear
set_option maxRecDepth 20000 in
theorem ggX0_surveyQuarters_X1_isLand : GoodIn wsX0_surveyQuarters wsX1_isLand := goodIn_r _ [12] (by decide +kernel) (by decide +kernel)
set_option maxRecDepth 20000 in
theorem gX0_surveyQuarters_X1_isLand_n98 : GoodIn wsX0_surveyQuarters (wsX1_isLand) := ggX0_surveyQuarters_X1_isLand
set_option maxRecDepth 20000 in
theorem ggX0_surveyQuarters_X0_spread : GoodIn wsX0_surveyQuarters wsX0_spread := goodIn_r _ [16, 17, 5, 18, 11, 19, 20, 21, 10, 12, 22, 23, 28, 29, 30, 31, 32, 33, 34, 35, 36, 37, 38, 39, 40] (by decide +kernel) (by decide +kernel)
set_option maxRecDepth 20000 in
theorem gX0_surveyQuarters_X0_spread : GoodIn wsX0_surveyQuarters (wsV RX0 87 RX0 yX0_spread wsX0_spread) := goodIn_app (goodIn_of _ (by decide +kernel)) ggX0_surveyQuarters_X0_spread
set_option maxRecDepth 20000 in
theorem ggX0_surveyQuarters_X0_enter : GoodIn wsX0_surveyQuarters wsX0_enter := goodIn_r _ [27, 2, 3, 4, 18, 11, 19, 28, 29, 30, 31, 32, 33, 34, 35, 36, 37, 38, 39, 40] (by decide +kernel) (by decide +kernel)
set_option maxRecDepth 20000 in
theorem gX0_surveyQuarters_X0_enter : GoodIn wsX0_surveyQuarters (wsV RX0 101 RX0 yX0_enter wsX0_enter) := goodIn_app (goodIn_of _ (by decide +kernel)) ggX0_surveyQuarters_X0_enter
theorem dX0_surveyQuarters_0 : decode cX0_surveyQuarters 0 = .ok (.aload_n 0, 1) := by decide +kernel
theorem dX0_surveyQuarters_1 : decode cX0_surveyQuarters 1 = .ok (.getfield 25, 3) := by decide +kernel
theorem dX0_surveyQuarters_4 : decode cX0_surveyQuarters 4 = .ok (.iconst (-1), 1) := by decide +kernel
theorem dX0_surveyQuarters_5 : decode cX0_surveyQuarters 5 = .ok (.invokestatic 80, 3) := by decide +kernel
theorem dX0_surveyQuarters_8 : decode cX0_surveyQuarters 8 = .ok (.aload_n 0, 1) := by decide +kernel
theorem dX0_surveyQuarters_9 : decode cX0_surveyQuarters 9 = .ok (.getfield 28, 3) := by decide +kernel
theorem dX0_surveyQuarters_12 : decode cX0_surveyQuarters 12 = .ok (.iconst 0, 1) := by decide +kernel
theorem dX0_surveyQuarters_13 : decode cX0_surveyQuarters 13 = .ok (.invokestatic 80, 3) := by decide +kernel
theorem dX0_surveyQuarters_16 : decode cX0_surveyQuarters 16 = .ok (.aload_n 0, 1) := by decide +kernel
theorem dX0_surveyQuarters_17 : decode cX0_surveyQuarters 17 = .ok (.getfield 31, 3) := by decide +kernel
theorem dX0_surveyQuarters_20 : decode cX0_surveyQuarters 20 = .ok (.iconst 0, 1) := by decide +kernel
theorem dX0_surveyQuarters_21 : decode cX0_surveyQuarters 21 = .ok (.invokestatic 80, 3) := by decide +kernel
theorem dX0_surveyQuarters_24 : decode cX0_surveyQuarters 24 = .ok (.aload_n 0, 1) := by decide +kernel
theorem dX0_surveyQuarters_25 : decode cX0_surveyQuarters 25 = .ok (.getfield 34, 3) := by decide +kernel
theorem dX0_surveyQuarters_28 : decode cX0_surveyQuarters 28 = .ok (.iconst 0, 1) := by decide +kernel
theorem dX0_surveyQuarters_29 : decode cX0_surveyQuarters 29 = .ok (.invokestatic 80, 3) := by decide +kernel
theorem dX0_surveyQuarters_32 : decode cX0_surveyQuarters 32 = .ok (.iconst 0, 1) := by decide +kernel
theorem dX0_surveyQuarters_33 : decode cX0_surveyQuarters 33 = .ok (.istore_n 1, 1) := by decide +kernel
theorem dX0_surveyQuarters_34 : decode cX0_surveyQuarters 34 = .ok (.iload_n 1, 1) := by decide +kernel
theorem dX0_surveyQuarters_35 : decode cX0_surveyQuarters 35 = .ok (.bipush 64, 2) := by decide +kernel
theorem dX0_surveyQuarters_37 : decode cX0_surveyQuarters 37 = .ok (.if_icmp .ge 58, 3) := by decide +kernel
theorem dX0_surveyQuarters_40 : decode cX0_surveyQuarters 40 = .ok (.aload_n 0, 1) := by decide +kernel
theorem dX0_surveyQuarters_41 : decode cX0_surveyQuarters 41 = .ok (.getfield 21, 3) := by decide +kernel
theorem dX0_surveyQuarters_44 : decode cX0_surveyQuarters 44 = .ok (.iload_n 1, 1) := by decide +kernel
theorem dX0_surveyQuarters_45 : decode cX0_surveyQuarters 45 = .ok (.iaload, 1) := by decide +kernel
theorem dX0_surveyQuarters_46 : decode cX0_surveyQuarters 46 = .ok (.invokestatic 98, 3) := by decide +kernel
theorem dX0_surveyQuarters_49 : decode cX0_surveyQuarters 49 = .ok (.ifCond .eq 40, 3) := by decide +kernel
theorem dX0_surveyQuarters_52 : decode cX0_surveyQuarters 52 = .ok (.aload_n 0, 1) := by decide +kernel
theorem dX0_surveyQuarters_53 : decode cX0_surveyQuarters 53 = .ok (.getfield 25, 3) := by decide +kernel
theorem dX0_surveyQuarters_56 : decode cX0_surveyQuarters 56 = .ok (.iload_n 1, 1) := by decide +kernel
theorem dX0_surveyQuarters_57 : decode cX0_surveyQuarters 57 = .ok (.iaload, 1) := by decide +kernel
theorem dX0_surveyQuarters_58 : decode cX0_surveyQuarters 58 = .ok (.ifCond .ge 15, 3) := by decide +kernel
theorem dX0_surveyQuarters_61 : decode cX0_surveyQuarters 61 = .ok (.aload_n 0, 1) := by decide +kernel
theorem dX0_surveyQuarters_62 : decode cX0_surveyQuarters 62 = .ok (.aload_n 0, 1) := by decide +kernel
theorem dX0_surveyQuarters_63 : decode cX0_surveyQuarters 63 = .ok (.getfield 25, 3) := by decide +kernel
theorem dX0_surveyQuarters_66 : decode cX0_surveyQuarters 66 = .ok (.iload_n 1, 1) := by decide +kernel
theorem dX0_surveyQuarters_67 : decode cX0_surveyQuarters 67 = .ok (.iconst 1, 1) := by decide +kernel
theorem dX0_surveyQuarters_68 : decode cX0_surveyQuarters 68 = .ok (.iload_n 1, 1) := by decide +kernel
theorem dX0_surveyQuarters_69 : decode cX0_surveyQuarters 69 = .ok (.iconst 0, 1) := by decide +kernel
theorem dX0_surveyQuarters_70 : decode cX0_surveyQuarters 70 = .ok (.invokevirtual 87, 3) := by decide +kernel
theorem dX0_surveyQuarters_73 : decode cX0_surveyQuarters 73 = .ok (.aload_n 0, 1) := by decide +kernel
theorem dX0_surveyQuarters_74 : decode cX0_surveyQuarters 74 = .ok (.aload_n 0, 1) := by decide +kernel
theorem dX0_surveyQuarters_75 : decode cX0_surveyQuarters 75 = .ok (.getfield 25, 3) := by decide +kernel
theorem dX0_surveyQuarters_78 : decode cX0_surveyQuarters 78 = .ok (.iload_n 1, 1) := by decide +kernel
theorem dX0_surveyQuarters_79 : decode cX0_surveyQuarters 79 = .ok (.iaload, 1) := by decide +kernel
theorem dX0_surveyQuarters_80 : decode cX0_surveyQuarters 80 = .ok (.aload_n 0, 1) := by decide +kernel
theorem dX0_surveyQuarters_81 : decode cX0_surveyQuarters 81 = .ok (.getfield 21, 3) := by decide +kernel
theorem dX0_surveyQuarters_84 : decode cX0_surveyQuarters 84 = .ok (.iload_n 1, 1) := by decide +kernel
theorem dX0_surveyQuarters_85 : decode cX0_surveyQuarters 85 = .ok (.iaload, 1) := by decide +kernel
theorem dX0_surveyQuarters_86 : decode cX0_surveyQuarters 86 = .ok (.invokevirtual 101, 3) := by decide +kernel
theorem dX0_surveyQuarters_89 : decode cX0_surveyQuarters 89 = .ok (.iinc 1 1, 3) := by decide +kernel
theorem dX0_surveyQuarters_92 : decode cX0_surveyQuarters 92 = .ok (.goto (-58), 3) := by decide +kernel
theorem dX0_surveyQuarters_95 : decode cX0_surveyQuarters 95 = .ok (.return_, 1) := by decide +kernel
set_option maxRecDepth 20000 in
theorem ggX0_enter_X1_isLot : GoodIn wsX0_enter wsX1_isLot := goodIn_r _ [6] (by decide +kernel) (by decide +kernel)
set_option maxRecDepth 20000 in
theorem gX0_enter_X1_isLot_n73 : GoodIn wsX0_enter (wsX1_isLot) := ggX0_enter_X1_isLot
theorem dX0_enter_0 : decode cX0_enter 0 = .ok (.iload_n 1, 1) := by decide +kernel
theorem dX0_enter_1 : decode cX0_enter 1 = .ok (.invokestatic 73, 3) := by decide +kernel
theorem dX0_enter_4 : decode cX0_enter 4 = .ok (.ifCond .ne 4, 3) := by decide +kernel
theorem dX0_enter_7 : decode cX0_enter 7 = .ok (.return_, 1) := by decide +kernel
theorem dX0_enter_8 : decode cX0_enter 8 = .ok (.aload_n 0, 1) := by decide +kernel
theorem dX0_enter_9 : decode cX0_enter 9 = .ok (.getfield 28, 3) := by decide +kernel
theorem dX0_enter_12 : decode cX0_enter 12 = .ok (.iload_n 1, 1) := by decide +kernel
theorem dX0_enter_13 : decode cX0_enter 13 = .ok (.dup2, 1) := by decide +kernel
theorem dX0_enter_14 : decode cX0_enter 14 = .ok (.iaload, 1) := by decide +kernel
theorem dX0_enter_15 : decode cX0_enter 15 = .ok (.iconst 1, 1) := by decide +kernel
theorem dX0_enter_16 : decode cX0_enter 16 = .ok (.iadd, 1) := by decide +kernel
theorem dX0_enter_17 : decode cX0_enter 17 = .ok (.iastore, 1) := by decide +kernel
theorem dX0_enter_18 : decode cX0_enter 18 = .ok (.iload_n 2, 1) := by decide +kernel
theorem dX0_enter_19 : decode cX0_enter 19 = .ok (.iconst 3, 1) := by decide +kernel
theorem dX0_enter_20 : decode cX0_enter 20 = .ok (.if_icmp .ne 16, 3) := by decide +kernel
theorem dX0_enter_23 : decode cX0_enter 23 = .ok (.aload_n 0, 1) := by decide +kernel
theorem dX0_enter_24 : decode cX0_enter 24 = .ok (.getfield 31, 3) := by decide +kernel
theorem dX0_enter_27 : decode cX0_enter 27 = .ok (.iload_n 1, 1) := by decide +kernel
theorem dX0_enter_28 : decode cX0_enter 28 = .ok (.dup2, 1) := by decide +kernel
theorem dX0_enter_29 : decode cX0_enter 29 = .ok (.iaload, 1) := by decide +kernel
theorem dX0_enter_30 : decode cX0_enter 30 = .ok (.iconst 1, 1) := by decide +kernel
theorem dX0_enter_31 : decode cX0_enter 31 = .ok (.iadd, 1) := by decide +kernel
theorem dX0_enter_32 : decode cX0_enter 32 = .ok (.iastore, 1) := by decide +kernel
theorem dX0_enter_33 : decode cX0_enter 33 = .ok (.goto 18, 3) := by decide +kernel
theorem dX0_enter_36 : decode cX0_enter 36 = .ok (.iload_n 2, 1) := by decide +kernel
theorem dX0_enter_37 : decode cX0_enter 37 = .ok (.iconst 5, 1) := by decide +kernel
theorem dX0_enter_38 : decode cX0_enter 38 = .ok (.if_icmp .ne 13, 3) := by decide +kernel
theorem dX0_enter_41 : decode cX0_enter 41 = .ok (.aload_n 0, 1) := by decide +kernel
theorem dX0_enter_42 : decode cX0_enter 42 = .ok (.getfield 34, 3) := by decide +kernel
theorem dX0_enter_45 : decode cX0_enter 45 = .ok (.iload_n 1, 1) := by decide +kernel
theorem dX0_enter_46 : decode cX0_enter 46 = .ok (.dup2, 1) := by decide +kernel
theorem dX0_enter_47 : decode cX0_enter 47 = .ok (.iaload, 1) := by decide +kernel
theorem dX0_enter_48 : decode cX0_enter 48 = .ok (.iconst 1, 1) := by decide +kernel
theorem dX0_enter_49 : decode cX0_enter 49 = .ok (.iadd, 1) := by decide +kernel
theorem dX0_enter_50 : decode cX0_enter 50 = .ok (.iastore, 1) := by decide +kernel
theorem dX0_enter_51 : decode cX0_enter 51 = .ok (.return_, 1) := by decide +kernel
theorem dX0_clear_0 : decode cX0_clear 0 = .ok (.iconst 0, 1) := by decide +kernel
theorem dX0_clear_1 : decode cX0_clear 1 = .ok (.istore_n 2, 1) := by decide +kernel
theorem dX0_clear_2 : decode cX0_clear 2 = .ok (.iload_n 2, 1) := by decide +kernel
theorem dX0_clear_3 : decode cX0_clear 3 = .ok (.aload_n 0, 1) := by decide +kernel
theorem dX0_clear_4 : decode cX0_clear 4 = .ok (.arraylength, 1) := by decide +kernel
theorem dX0_clear_5 : decode cX0_clear 5 = .ok (.if_icmp .ge 13, 3) := by decide +kernel
theorem dX0_clear_8 : decode cX0_clear 8 = .ok (.aload_n 0, 1) := by decide +kernel
theorem dX0_clear_9 : decode cX0_clear 9 = .ok (.iload_n 2, 1) := by decide +kernel
theorem dX0_clear_10 : decode cX0_clear 10 = .ok (.iload_n 1, 1) := by decide +kernel
theorem dX0_clear_11 : decode cX0_clear 11 = .ok (.iastore, 1) := by decide +kernel
theorem dX0_clear_12 : decode cX0_clear 12 = .ok (.iinc 2 1, 3) := by decide +kernel
theorem dX0_clear_15 : decode cX0_clear 15 = .ok (.goto (-13), 3) := by decide +kernel
theorem dX0_clear_18 : decode cX0_clear 18 = .ok (.return_, 1) := by decide +kernel
set_option maxRecDepth 20000 in
theorem ggX0_spread_X1_isLot : GoodIn wsX0_spread wsX1_isLot := goodIn_r _ [5] (by decide +kernel) (by decide +kernel)
set_option maxRecDepth 20000 in
theorem gX0_spread_X1_isLot_n73 : GoodIn wsX0_spread (wsX1_isLot) := ggX0_spread_X1_isLot
set_option maxRecDepth 20000 in
theorem ggX0_spread_X1_neighbour : GoodIn wsX0_spread wsX1_neighbour := goodIn_r _ [7] (by decide +kernel) (by decide +kernel)
set_option maxRecDepth 20000 in
theorem gX0_spread_X1_neighbour_n104 : GoodIn wsX0_spread (wsX1_neighbour) := ggX0_spread_X1_neighbour
set_option maxRecDepth 20000 in
theorem ggX0_spread_X1_isLand : GoodIn wsX0_spread wsX1_isLand := goodIn_r _ [9] (by decide +kernel) (by decide +kernel)
set_option maxRecDepth 20000 in
theorem gX0_spread_X1_isLand_n98 : GoodIn wsX0_spread (wsX1_isLand) := ggX0_spread_X1_isLand
set_option maxRecDepth 20000 in
theorem ggX0_spread_X1_isWater : GoodIn wsX0_spread wsX1_isWater := goodIn_r _ [11] (by decide +kernel) (by decide +kernel)
set_option maxRecDepth 20000 in
theorem gX0_spread_X1_isWater_n84 : GoodIn wsX0_spread (wsX1_isWater) := ggX0_spread_X1_isWater
theorem dX0_spread_0 : decode cX0_spread 0 = .ok (.aload_n 1, 1) := by decide +kernel
theorem dX0_spread_1 : decode cX0_spread 1 = .ok (.iload_n 2, 1) := by decide +kernel
theorem dX0_spread_2 : decode cX0_spread 2 = .ok (.iload 4, 2) := by decide +kernel
theorem dX0_spread_4 : decode cX0_spread 4 = .ok (.iastore, 1) := by decide +kernel
theorem dX0_spread_5 : decode cX0_spread 5 = .ok (.aload_n 0, 1) := by decide +kernel
theorem dX0_spread_6 : decode cX0_spread 6 = .ok (.getfield 49, 3) := by decide +kernel
theorem dX0_spread_9 : decode cX0_spread 9 = .ok (.iconst 0, 1) := by decide +kernel
theorem dX0_spread_10 : decode cX0_spread 10 = .ok (.iload_n 2, 1) := by decide +kernel
theorem dX0_spread_11 : decode cX0_spread 11 = .ok (.iastore, 1) := by decide +kernel
theorem dX0_spread_12 : decode cX0_spread 12 = .ok (.iconst 1, 1) := by decide +kernel
theorem dX0_spread_13 : decode cX0_spread 13 = .ok (.istore 6, 2) := by decide +kernel
theorem dX0_spread_15 : decode cX0_spread 15 = .ok (.iconst 0, 1) := by decide +kernel
theorem dX0_spread_16 : decode cX0_spread 16 = .ok (.istore 7, 2) := by decide +kernel
theorem dX0_spread_18 : decode cX0_spread 18 = .ok (.iload 7, 2) := by decide +kernel
theorem dX0_spread_20 : decode cX0_spread 20 = .ok (.iload 6, 2) := by decide +kernel
theorem dX0_spread_22 : decode cX0_spread 22 = .ok (.if_icmp .ge 135, 3) := by decide +kernel
theorem dX0_spread_25 : decode cX0_spread 25 = .ok (.iload 7, 2) := by decide +kernel
theorem dX0_spread_27 : decode cX0_spread 27 = .ok (.bipush 64, 2) := by decide +kernel
theorem dX0_spread_29 : decode cX0_spread 29 = .ok (.if_icmp .ge 128, 3) := by decide +kernel
theorem dX0_spread_32 : decode cX0_spread 32 = .ok (.aload_n 0, 1) := by decide +kernel
theorem dX0_spread_33 : decode cX0_spread 33 = .ok (.getfield 49, 3) := by decide +kernel
theorem dX0_spread_36 : decode cX0_spread 36 = .ok (.iload 7, 2) := by decide +kernel
theorem dX0_spread_38 : decode cX0_spread 38 = .ok (.iaload, 1) := by decide +kernel
theorem dX0_spread_39 : decode cX0_spread 39 = .ok (.istore 8, 2) := by decide +kernel
theorem dX0_spread_41 : decode cX0_spread 41 = .ok (.iconst 0, 1) := by decide +kernel
theorem dX0_spread_42 : decode cX0_spread 42 = .ok (.istore 9, 2) := by decide +kernel
theorem dX0_spread_44 : decode cX0_spread 44 = .ok (.iload 8, 2) := by decide +kernel
theorem dX0_spread_46 : decode cX0_spread 46 = .ok (.invokestatic 73, 3) := by decide +kernel
theorem dX0_spread_49 : decode cX0_spread 49 = .ok (.ifCond .eq 102, 3) := by decide +kernel
theorem dX0_spread_52 : decode cX0_spread 52 = .ok (.iload 9, 2) := by decide +kernel
theorem dX0_spread_54 : decode cX0_spread 54 = .ok (.iconst 4, 1) := by decide +kernel
theorem dX0_spread_55 : decode cX0_spread 55 = .ok (.if_icmp .ge 96, 3) := by decide +kernel
theorem dX0_spread_58 : decode cX0_spread 58 = .ok (.iload 8, 2) := by decide +kernel
theorem dX0_spread_60 : decode cX0_spread 60 = .ok (.iload 9, 2) := by decide +kernel
theorem dX0_spread_62 : decode cX0_spread 62 = .ok (.invokestatic 104, 3) := by decide +kernel
theorem dX0_spread_65 : decode cX0_spread 65 = .ok (.istore 10, 2) := by decide +kernel
theorem dX0_spread_67 : decode cX0_spread 67 = .ok (.iload 10, 2) := by decide +kernel
theorem dX0_spread_69 : decode cX0_spread 69 = .ok (.invokestatic 73, 3) := by decide +kernel
theorem dX0_spread_72 : decode cX0_spread 72 = .ok (.ifCond .eq 73, 3) := by decide +kernel
theorem dX0_spread_75 : decode cX0_spread 75 = .ok (.aload_n 1, 1) := by decide +kernel
theorem dX0_spread_76 : decode cX0_spread 76 = .ok (.iload 10, 2) := by decide +kernel
theorem dX0_spread_78 : decode cX0_spread 78 = .ok (.iaload, 1) := by decide +kernel
theorem dX0_spread_79 : decode cX0_spread 79 = .ok (.ifCond .ge 66, 3) := by decide +kernel
theorem dX0_spread_82 : decode cX0_spread 82 = .ok (.iload 6, 2) := by decide +kernel
theorem dX0_spread_84 : decode cX0_spread 84 = .ok (.bipush 64, 2) := by decide +kernel
theorem dX0_spread_86 : decode cX0_spread 86 = .ok (.if_icmp .ge 59, 3) := by decide +kernel
theorem dX0_spread_89 : decode cX0_spread 89 = .ok (.iload_n 3, 1) := by decide +kernel
theorem dX0_spread_90 : decode cX0_spread 90 = .ok (.ifCond .eq 19, 3) := by decide +kernel
theorem dX0_spread_93 : decode cX0_spread 93 = .ok (.aload_n 0, 1) := by decide +kernel
theorem dX0_spread_94 : decode cX0_spread 94 = .ok (.getfield 21, 3) := by decide +kernel
theorem dX0_spread_97 : decode cX0_spread 97 = .ok (.iload 10, 2) := by decide +kernel
theorem dX0_spread_99 : decode cX0_spread 99 = .ok (.iaload, 1) := by decide +kernel
theorem dX0_spread_100 : decode cX0_spread 100 = .ok (.invokestatic 98, 3) := by decide +kernel
theorem dX0_spread_103 : decode cX0_spread 103 = .ok (.ifCond .eq 42, 3) := by decide +kernel
theorem dX0_spread_106 : decode cX0_spread 106 = .ok (.goto 16, 3) := by decide +kernel
theorem dX0_spread_109 : decode cX0_spread 109 = .ok (.aload_n 0, 1) := by decide +kernel
theorem dX0_spread_110 : decode cX0_spread 110 = .ok (.getfield 21, 3) := by decide +kernel
theorem dX0_spread_113 : decode cX0_spread 113 = .ok (.iload 10, 2) := by decide +kernel
theorem dX0_spread_115 : decode cX0_spread 115 = .ok (.iaload, 1) := by decide +kernel
theorem dX0_spread_116 : decode cX0_spread 116 = .ok (.invokestatic 84, 3) := by decide +kernel
theorem dX0_spread_119 : decode cX0_spread 119 = .ok (.ifCond .eq 26, 3) := by decide +kernel
theorem dX0_spread_122 : decode cX0_spread 122 = .ok (.aload_n 1, 1) := by decide +kernel
theorem dX0_spread_123 : decode cX0_spread 123 = .ok (.iload 10, 2) := by decide +kernel
theorem dX0_spread_125 : decode cX0_spread 125 = .ok (.aload_n 1, 1) := by decide +kernel
theorem dX0_spread_126 : decode cX0_spread 126 = .ok (.iload 8, 2) := by decide +kernel
theorem dX0_spread_128 : decode cX0_spread 128 = .ok (.iaload, 1) := by decide +kernel
theorem dX0_spread_129 : decode cX0_spread 129 = .ok (.iload 5, 2) := by decide +kernel
theorem dX0_spread_131 : decode cX0_spread 131 = .ok (.iadd, 1) := by decide +kernel
theorem dX0_spread_132 : decode cX0_spread 132 = .ok (.iastore, 1) := by decide +kernel
theorem dX0_spread_133 : decode cX0_spread 133 = .ok (.aload_n 0, 1) := by decide +kernel
theorem dX0_spread_134 : decode cX0_spread 134 = .ok (.getfield 49, 3) := by decide +kernel
theorem dX0_spread_137 : decode cX0_spread 137 = .ok (.iload 6, 2) := by decide +kernel
theorem dX0_spread_139 : decode cX0_spread 139 = .ok (.iload 10, 2) := by decide +kernel
theorem dX0_spread_141 : decode cX0_spread 141 = .ok (.iastore, 1) := by decide +kernel
theorem dX0_spread_142 : decode cX0_spread 142 = .ok (.iinc 6 1, 3) := by decide +kernel
theorem dX0_spread_145 : decode cX0_spread 145 = .ok (.iinc 9 1, 3) := by decide +kernel
theorem dX0_spread_148 : decode cX0_spread 148 = .ok (.goto (-104), 3) := by decide +kernel
theorem dX0_spread_151 : decode cX0_spread 151 = .ok (.iinc 7 1, 3) := by decide +kernel
theorem dX0_spread_154 : decode cX0_spread 154 = .ok (.goto (-136), 3) := by decide +kernel
theorem dX0_spread_157 : decode cX0_spread 157 = .ok (.return_, 1) := by decide +kernel
set_option maxRecDepth 20000 in
theorem ggX0_complaintsAt_X0_marketsInQuarter : GoodIn wsX0_complaintsAt wsX0_marketsInQuarter := goodIn_r _ [6, 7, 8, 9, 10, 11, 29, 30, 31, 32, 33, 34, 35, 36, 37, 38, 39, 40, 41] (by decide +kernel) (by decide +kernel)
set_option maxRecDepth 20000 in
theorem gX0_complaintsAt_X0_marketsInQuarter : GoodIn wsX0_complaintsAt (wsV RX0 107 RX0 yX0_marketsInQuarter wsX0_marketsInQuarter) := goodIn_app (goodIn_of _ (by decide +kernel)) ggX0_complaintsAt_X0_marketsInQuarter
set_option maxRecDepth 20000 in
theorem ggX0_complaintsAt_X0_isByBoat : GoodIn wsX0_complaintsAt wsX0_isByBoat := goodIn_r _ [15, 1, 16, 10, 17, 18, 19, 9, 11, 20, 21, 22, 5, 23, 24, 29, 30, 31, 32, 33, 34, 35, 36, 37, 38, 39, 40, 41] (by decide +kernel) (by decide +kernel)
set_option maxRecDepth 20000 in
theorem gX0_complaintsAt_X0_isByBoat : GoodIn wsX0_complaintsAt (wsV RX0 110 RX0 yX0_isByBoat wsX0_isByBoat) := goodIn_app (goodIn_of _ (by decide +kernel)) ggX0_complaintsAt_X0_isByBoat
set_option maxRecDepth 20000 in
theorem ggX0_complaintsAt_X0_neighboursOfKind : GoodIn wsX0_complaintsAt wsX0_neighboursOfKind := goodIn_r _ [28, 1, 18, 10, 19, 9, 11, 29, 30, 31, 32, 33, 34, 35, 36, 37, 38, 39, 40, 41] (by decide +kernel) (by decide +kernel)
set_option maxRecDepth 20000 in
theorem gX0_complaintsAt_X0_neighboursOfKind : GoodIn wsX0_complaintsAt (wsV RX0 69 RX0 yX0_neighboursOfKind wsX0_neighboursOfKind) := goodIn_app (goodIn_of _ (by decide +kernel)) ggX0_complaintsAt_X0_neighboursOfKind
theorem dX0_complaintsAt_0 : decode cX0_complaintsAt 0 = .ok (.aload_n 0, 1) := by decide +kernel
theorem dX0_complaintsAt_1 : decode cX0_complaintsAt 1 = .ok (.getfield 21, 3) := by decide +kernel
theorem dX0_complaintsAt_4 : decode cX0_complaintsAt 4 = .ok (.iload_n 1, 1) := by decide +kernel
theorem dX0_complaintsAt_5 : decode cX0_complaintsAt 5 = .ok (.iaload, 1) := by decide +kernel
theorem dX0_complaintsAt_6 : decode cX0_complaintsAt 6 = .ok (.iconst 3, 1) := by decide +kernel
theorem dX0_complaintsAt_7 : decode cX0_complaintsAt 7 = .ok (.if_icmp .eq 5, 3) := by decide +kernel
theorem dX0_complaintsAt_10 : decode cX0_complaintsAt 10 = .ok (.iconst 0, 1) := by decide +kernel
theorem dX0_complaintsAt_11 : decode cX0_complaintsAt 11 = .ok (.ireturn, 1) := by decide +kernel
theorem dX0_complaintsAt_12 : decode cX0_complaintsAt 12 = .ok (.aload_n 0, 1) := by decide +kernel
theorem dX0_complaintsAt_13 : decode cX0_complaintsAt 13 = .ok (.iload_n 1, 1) := by decide +kernel
theorem dX0_complaintsAt_14 : decode cX0_complaintsAt 14 = .ok (.invokevirtual 107, 3) := by decide +kernel
theorem dX0_complaintsAt_17 : decode cX0_complaintsAt 17 = .ok (.ifCond .ne 7, 3) := by decide +kernel
theorem dX0_complaintsAt_20 : decode cX0_complaintsAt 20 = .ok (.iconst 2, 1) := by decide +kernel
theorem dX0_complaintsAt_21 : decode cX0_complaintsAt 21 = .ok (.goto 4, 3) := by decide +kernel
theorem dX0_complaintsAt_24 : decode cX0_complaintsAt 24 = .ok (.iconst 0, 1) := by decide +kernel
theorem dX0_complaintsAt_25 : decode cX0_complaintsAt 25 = .ok (.istore_n 2, 1) := by decide +kernel
theorem dX0_complaintsAt_26 : decode cX0_complaintsAt 26 = .ok (.aload_n 0, 1) := by decide +kernel
theorem dX0_complaintsAt_27 : decode cX0_complaintsAt 27 = .ok (.iload_n 1, 1) := by decide +kernel
theorem dX0_complaintsAt_28 : decode cX0_complaintsAt 28 = .ok (.invokevirtual 110, 3) := by decide +kernel
theorem dX0_complaintsAt_31 : decode cX0_complaintsAt 31 = .ok (.ifCond .eq 7, 3) := by decide +kernel
theorem dX0_complaintsAt_34 : decode cX0_complaintsAt 34 = .ok (.iconst 0, 1) := by decide +kernel
theorem dX0_complaintsAt_35 : decode cX0_complaintsAt 35 = .ok (.goto 4, 3) := by decide +kernel
theorem dX0_complaintsAt_38 : decode cX0_complaintsAt 38 = .ok (.iconst 1, 1) := by decide +kernel
theorem dX0_complaintsAt_39 : decode cX0_complaintsAt 39 = .ok (.istore_n 3, 1) := by decide +kernel
theorem dX0_complaintsAt_40 : decode cX0_complaintsAt 40 = .ok (.iload_n 2, 1) := by decide +kernel
theorem dX0_complaintsAt_41 : decode cX0_complaintsAt 41 = .ok (.aload_n 0, 1) := by decide +kernel
theorem dX0_complaintsAt_42 : decode cX0_complaintsAt 42 = .ok (.iload_n 1, 1) := by decide +kernel
theorem dX0_complaintsAt_43 : decode cX0_complaintsAt 43 = .ok (.iconst 4, 1) := by decide +kernel
theorem dX0_complaintsAt_44 : decode cX0_complaintsAt 44 = .ok (.invokevirtual 69, 3) := by decide +kernel
theorem dX0_complaintsAt_47 : decode cX0_complaintsAt 47 = .ok (.iadd, 1) := by decide +kernel
theorem dX0_complaintsAt_48 : decode cX0_complaintsAt 48 = .ok (.iload_n 3, 1) := by decide +kernel
theorem dX0_complaintsAt_49 : decode cX0_complaintsAt 49 = .ok (.iadd, 1) := by decide +kernel
theorem dX0_complaintsAt_50 : decode cX0_complaintsAt 50 = .ok (.ireturn, 1) := by decide +kernel
set_option maxRecDepth 20000 in
theorem ggX0_duesAt_X0_isByBoat : GoodIn wsX0_duesAt wsX0_isByBoat := goodIn_r _ [11, 1, 12, 13, 14, 15, 16, 17, 18, 19, 20, 21, 10, 22, 23, 30, 31, 32, 33, 34, 35, 36, 37, 38, 39, 40, 41, 42] (by decide +kernel) (by decide +kernel)
set_option maxRecDepth 20000 in
theorem gX0_duesAt_X0_isByBoat : GoodIn wsX0_duesAt (wsV RX0 110 RX0 yX0_isByBoat wsX0_isByBoat) := goodIn_app (goodIn_of _ (by decide +kernel)) ggX0_duesAt_X0_isByBoat
set_option maxRecDepth 20000 in
theorem ggX0_duesAt_X0_housesInQuarter : GoodIn wsX0_duesAt wsX0_housesInQuarter := goodIn_r _ [27, 28, 29, 17, 13, 18, 30, 31, 32, 33, 34, 35, 36, 37, 38, 39, 40, 41, 42] (by decide +kernel) (by decide +kernel)
set_option maxRecDepth 20000 in
theorem gX0_duesAt_X0_housesInQuarter : GoodIn wsX0_duesAt (wsV RX0 118 RX0 yX0_housesInQuarter wsX0_housesInQuarter) := goodIn_app (goodIn_of _ (by decide +kernel)) ggX0_duesAt_X0_housesInQuarter
theorem dX0_duesAt_0 : decode cX0_duesAt 0 = .ok (.aload_n 0, 1) := by decide +kernel
theorem dX0_duesAt_1 : decode cX0_duesAt 1 = .ok (.getfield 21, 3) := by decide +kernel
theorem dX0_duesAt_4 : decode cX0_duesAt 4 = .ok (.iload_n 1, 1) := by decide +kernel
theorem dX0_duesAt_5 : decode cX0_duesAt 5 = .ok (.iaload, 1) := by decide +kernel
theorem dX0_duesAt_6 : decode cX0_duesAt 6 = .ok (.tableswitch 61 3 5 #[26, 39, 53], 26) := by decide +kernel
theorem dX0_duesAt_32 : decode cX0_duesAt 32 = .ok (.iconst 0, 1) := by decide +kernel
theorem dX0_duesAt_33 : decode cX0_duesAt 33 = .ok (.iconst 4, 1) := by decide +kernel
theorem dX0_duesAt_34 : decode cX0_duesAt 34 = .ok (.aload_n 0, 1) := by decide +kernel
theorem dX0_duesAt_35 : decode cX0_duesAt 35 = .ok (.getfield 40, 3) := by decide +kernel
theorem dX0_duesAt_38 : decode cX0_duesAt 38 = .ok (.iload_n 1, 1) := by decide +kernel
theorem dX0_duesAt_39 : decode cX0_duesAt 39 = .ok (.iaload, 1) := by decide +kernel
theorem dX0_duesAt_40 : decode cX0_duesAt 40 = .ok (.isub, 1) := by decide +kernel
theorem dX0_duesAt_41 : decode cX0_duesAt 41 = .ok (.invokestatic 113, 3) := by decide +kernel
theorem dX0_duesAt_44 : decode cX0_duesAt 44 = .ok (.ireturn, 1) := by decide +kernel
theorem dX0_duesAt_45 : decode cX0_duesAt 45 = .ok (.aload_n 0, 1) := by decide +kernel
theorem dX0_duesAt_46 : decode cX0_duesAt 46 = .ok (.iload_n 1, 1) := by decide +kernel
theorem dX0_duesAt_47 : decode cX0_duesAt 47 = .ok (.invokevirtual 110, 3) := by decide +kernel
theorem dX0_duesAt_50 : decode cX0_duesAt 50 = .ok (.ifCond .eq 7, 3) := by decide +kernel
theorem dX0_duesAt_53 : decode cX0_duesAt 53 = .ok (.iconst 5, 1) := by decide +kernel
theorem dX0_duesAt_54 : decode cX0_duesAt 54 = .ok (.goto 4, 3) := by decide +kernel
theorem dX0_duesAt_57 : decode cX0_duesAt 57 = .ok (.iconst 2, 1) := by decide +kernel
theorem dX0_duesAt_58 : decode cX0_duesAt 58 = .ok (.ireturn, 1) := by decide +kernel
theorem dX0_duesAt_59 : decode cX0_duesAt 59 = .ok (.aload_n 0, 1) := by decide +kernel
theorem dX0_duesAt_60 : decode cX0_duesAt 60 = .ok (.iload_n 1, 1) := by decide +kernel
theorem dX0_duesAt_61 : decode cX0_duesAt 61 = .ok (.invokevirtual 118, 3) := by decide +kernel
theorem dX0_duesAt_64 : decode cX0_duesAt 64 = .ok (.iconst 2, 1) := by decide +kernel
theorem dX0_duesAt_65 : decode cX0_duesAt 65 = .ok (.idiv, 1) := by decide +kernel
theorem dX0_duesAt_66 : decode cX0_duesAt 66 = .ok (.ireturn, 1) := by decide +kernel
theorem dX0_duesAt_67 : decode cX0_duesAt 67 = .ok (.iconst 0, 1) := by decide +kernel
theorem dX0_duesAt_68 : decode cX0_duesAt 68 = .ok (.ireturn, 1) := by decide +kernel
set_option maxRecDepth 20000 in
theorem ggX0_lotsOfQuarter_X1_isLot : GoodIn wsX0_lotsOfQuarter wsX1_isLot := goodIn_r _ [5] (by decide +kernel) (by decide +kernel)
set_option maxRecDepth 20000 in
theorem gX0_lotsOfQuarter_X1_isLot_n73 : GoodIn wsX0_lotsOfQuarter (wsX1_isLot) := ggX0_lotsOfQuarter_X1_isLot
theorem dX0_lotsOfQuarter_0 : decode cX0_lotsOfQuarter 0 = .ok (.aload_n 0, 1) := by decide +kernel
theorem dX0_lotsOfQuarter_1 : decode cX0_lotsOfQuarter 1 = .ok (.getfield 25, 3) := by decide +kernel
theorem dX0_lotsOfQuarter_4 : decode cX0_lotsOfQuarter 4 = .ok (.iload_n 1, 1) := by decide +kernel
theorem dX0_lotsOfQuarter_5 : decode cX0_lotsOfQuarter 5 = .ok (.iaload, 1) := by decide +kernel
theorem dX0_lotsOfQuarter_6 : decode cX0_lotsOfQuarter 6 = .ok (.istore_n 2, 1) := by decide +kernel
theorem dX0_lotsOfQuarter_7 : decode cX0_lotsOfQuarter 7 = .ok (.iload_n 2, 1) := by decide +kernel
theorem dX0_lotsOfQuarter_8 : decode cX0_lotsOfQuarter 8 = .ok (.invokestatic 73, 3) := by decide +kernel
theorem dX0_lotsOfQuarter_11 : decode cX0_lotsOfQuarter 11 = .ok (.ifCond .eq 12, 3) := by decide +kernel
theorem dX0_lotsOfQuarter_14 : decode cX0_lotsOfQuarter 14 = .ok (.aload_n 0, 1) := by decide +kernel
theorem dX0_lotsOfQuarter_15 : decode cX0_lotsOfQuarter 15 = .ok (.getfield 28, 3) := by decide +kernel
theorem dX0_lotsOfQuarter_18 : decode cX0_lotsOfQuarter 18 = .ok (.iload_n 2, 1) := by decide +kernel
theorem dX0_lotsOfQuarter_19 : decode cX0_lotsOfQuarter 19 = .ok (.iaload, 1) := by decide +kernel
theorem dX0_lotsOfQuarter_20 : decode cX0_lotsOfQuarter 20 = .ok (.goto 4, 3) := by decide +kernel
theorem dX0_lotsOfQuarter_23 : decode cX0_lotsOfQuarter 23 = .ok (.iconst 0, 1) := by decide +kernel
theorem dX0_lotsOfQuarter_24 : decode cX0_lotsOfQuarter 24 = .ok (.ireturn, 1) := by decide +kernel
set_option maxRecDepth 20000 in
theorem ggX0_housesInQuarter_X1_isLot : GoodIn wsX0_housesInQuarter wsX1_isLot := goodIn_r _ [5] (by decide +kernel) (by decide +kernel)
set_option maxRecDepth 20000 in
theorem gX0_housesInQuarter_X1_isLot_n73 : GoodIn wsX0_housesInQuarter (wsX1_isLot) := ggX0_housesInQuarter_X1_isLot
theorem dX0_housesInQuarter_0 : decode cX0_housesInQuarter 0 = .ok (.aload_n 0, 1) := by decide +kernel
theorem dX0_housesInQuarter_1 : decode cX0_housesInQuarter 1 = .ok (.getfield 25, 3) := by decide +kernel
theorem dX0_housesInQuarter_4 : decode cX0_housesInQuarter 4 = .ok (.iload_n 1, 1) := by decide +kernel
theorem dX0_housesInQuarter_5 : decode cX0_housesInQuarter 5 = .ok (.iaload, 1) := by decide +kernel
theorem dX0_housesInQuarter_6 : decode cX0_housesInQuarter 6 = .ok (.istore_n 2, 1) := by decide +kernel
theorem dX0_housesInQuarter_7 : decode cX0_housesInQuarter 7 = .ok (.iload_n 2, 1) := by decide +kernel
theorem dX0_housesInQuarter_8 : decode cX0_housesInQuarter 8 = .ok (.invokestatic 73, 3) := by decide +kernel
theorem dX0_housesInQuarter_11 : decode cX0_housesInQuarter 11 = .ok (.ifCond .eq 12, 3) := by decide +kernel
theorem dX0_housesInQuarter_14 : decode cX0_housesInQuarter 14 = .ok (.aload_n 0, 1) := by decide +kernel
theorem dX0_housesInQuarter_15 : decode cX0_housesInQuarter 15 = .ok (.getfield 31, 3) := by decide +kernel
theorem dX0_housesInQuarter_18 : decode cX0_housesInQuarter 18 = .ok (.iload_n 2, 1) := by decide +kernel
theorem dX0_housesInQuarter_19 : decode cX0_housesInQuarter 19 = .ok (.iaload, 1) := by decide +kernel
theorem dX0_housesInQuarter_20 : decode cX0_housesInQuarter 20 = .ok (.goto 4, 3) := by decide +kernel
theorem dX0_housesInQuarter_23 : decode cX0_housesInQuarter 23 = .ok (.iconst 0, 1) := by decide +kernel
theorem dX0_housesInQuarter_24 : decode cX0_housesInQuarter 24 = .ok (.ireturn, 1) := by decide +kernel
set_option maxRecDepth 20000 in
theorem ggX0_marketsInQuarter_X1_isLot : GoodIn wsX0_marketsInQuarter wsX1_isLot := goodIn_r _ [5] (by decide +kernel) (by decide +kernel)
set_option maxRecDepth 20000 in
theorem gX0_marketsInQuarter_X1_isLot_n73 : GoodIn wsX0_marketsInQuarter (wsX1_isLot) := ggX0_marketsInQuarter_X1_isLot
theorem dX0_marketsInQuarter_0 : decode cX0_marketsInQuarter 0 = .ok (.aload_n 0, 1) := by decide +kernel
theorem dX0_marketsInQuarter_1 : decode cX0_marketsInQuarter 1 = .ok (.getfield 25, 3) := by decide +kernel
theorem dX0_marketsInQuarter_4 : decode cX0_marketsInQuarter 4 = .ok (.iload_n 1, 1) := by decide +kernel
theorem dX0_marketsInQuarter_5 : decode cX0_marketsInQuarter 5 = .ok (.iaload, 1) := by decide +kernel
theorem dX0_marketsInQuarter_6 : decode cX0_marketsInQuarter 6 = .ok (.istore_n 2, 1) := by decide +kernel
theorem dX0_marketsInQuarter_7 : decode cX0_marketsInQuarter 7 = .ok (.iload_n 2, 1) := by decide +kernel
theorem dX0_marketsInQuarter_8 : decode cX0_marketsInQuarter 8 = .ok (.invokestatic 73, 3) := by decide +kernel
theorem dX0_marketsInQuarter_11 : decode cX0_marketsInQuarter 11 = .ok (.ifCond .eq 12, 3) := by decide +kernel
theorem dX0_marketsInQuarter_14 : decode cX0_marketsInQuarter 14 = .ok (.aload_n 0, 1) := by decide +kernel
theorem dX0_marketsInQuarter_15 : decode cX0_marketsInQuarter 15 = .ok (.getfield 34, 3) := by decide +kernel
theorem dX0_marketsInQuarter_18 : decode cX0_marketsInQuarter 18 = .ok (.iload_n 2, 1) := by decide +kernel
theorem dX0_marketsInQuarter_19 : decode cX0_marketsInQuarter 19 = .ok (.iaload, 1) := by decide +kernel
theorem dX0_marketsInQuarter_20 : decode cX0_marketsInQuarter 20 = .ok (.goto 4, 3) := by decide +kernel
theorem dX0_marketsInQuarter_23 : decode cX0_marketsInQuarter 23 = .ok (.iconst 0, 1) := by decide +kernel
theorem dX0_marketsInQuarter_24 : decode cX0_marketsInQuarter 24 = .ok (.ireturn, 1) := by decide +kernel
theorem dX0_isOpenWater_0 : decode cX0_isOpenWater 0 = .ok (.aload_n 0, 1) := by decide +kernel
theorem dX0_isOpenWater_1 : decode cX0_isOpenWater 1 = .ok (.getfield 37, 3) := by decide +kernel
theorem dX0_isOpenWater_4 : decode cX0_isOpenWater 4 = .ok (.iload_n 1, 1) := by decide +kernel
theorem dX0_isOpenWater_5 : decode cX0_isOpenWater 5 = .ok (.iaload, 1) := by decide +kernel
theorem dX0_isOpenWater_6 : decode cX0_isOpenWater 6 = .ok (.ifCond .lt 7, 3) := by decide +kernel
theorem dX0_isOpenWater_9 : decode cX0_isOpenWater 9 = .ok (.iconst 1, 1) := by decide +kernel
theorem dX0_isOpenWater_10 : decode cX0_isOpenWater 10 = .ok (.goto 4, 3) := by decide +kernel
theorem dX0_isOpenWater_13 : decode cX0_isOpenWater 13 = .ok (.iconst 0, 1) := by decide +kernel
theorem dX0_isOpenWater_14 : decode cX0_isOpenWater 14 = .ok (.ireturn, 1) := by decide +kernel
set_option maxRecDepth 20000 in
theorem ggX0_isByBoat_X1_isLand : GoodIn wsX0_isByBoat wsX1_isLand := goodIn_r _ [4] (by decide +kernel) (by decide +kernel)
set_option maxRecDepth 20000 in
theorem gX0_isByBoat_X1_isLand_n98 : GoodIn wsX0_isByBoat (wsX1_isLand) := ggX0_isByBoat_X1_isLand
set_option maxRecDepth 20000 in
theorem ggX0_isByBoat_X1_neighbour : GoodIn wsX0_isByBoat wsX1_neighbour := goodIn_r _ [6] (by decide +kernel) (by decide +kernel)
set_option maxRecDepth 20000 in
theorem gX0_isByBoat_X1_neighbour_n104 : GoodIn wsX0_isByBoat (wsX1_neighbour) := ggX0_isByBoat_X1_neighbour
set_option maxRecDepth 20000 in
theorem ggX0_isByBoat_X1_isLot : GoodIn wsX0_isByBoat wsX1_isLot := goodIn_r _ [8] (by decide +kernel) (by decide +kernel)
set_option maxRecDepth 20000 in
theorem gX0_isByBoat_X1_isLot_n73 : GoodIn wsX0_isByBoat (wsX1_isLot) := ggX0_isByBoat_X1_isLot
set_option maxRecDepth 20000 in
theorem ggX0_isByBoat_X0_isOpenWater : GoodIn wsX0_isByBoat wsX0_isOpenWater := goodIn_r _ [13, 14, 15, 16, 17, 18, 19, 20, 21, 22, 23, 24, 25, 26, 27] (by decide +kernel) (by decide +kernel)
set_option maxRecDepth 20000 in
theorem gX0_isByBoat_X0_isOpenWater : GoodIn wsX0_isByBoat (wsV RX0 121 RX0 yX0_isOpenWater wsX0_isOpenWater) := goodIn_app (goodIn_of _ (by decide +kernel)) ggX0_isByBoat_X0_isOpenWater
theorem dX0_isByBoat_0 : decode cX0_isByBoat 0 = .ok (.aload_n 0, 1) := by decide +kernel
theorem dX0_isByBoat_1 : decode cX0_isByBoat 1 = .ok (.getfield 21, 3) := by decide +kernel
theorem dX0_isByBoat_4 : decode cX0_isByBoat 4 = .ok (.iload_n 1, 1) := by decide +kernel
theorem dX0_isByBoat_5 : decode cX0_isByBoat 5 = .ok (.iaload, 1) := by decide +kernel
theorem dX0_isByBoat_6 : decode cX0_isByBoat 6 = .ok (.istore_n 2, 1) := by decide +kernel
theorem dX0_isByBoat_7 : decode cX0_isByBoat 7 = .ok (.iload_n 2, 1) := by decide +kernel
theorem dX0_isByBoat_8 : decode cX0_isByBoat 8 = .ok (.invokestatic 98, 3) := by decide +kernel
theorem dX0_isByBoat_11 : decode cX0_isByBoat 11 = .ok (.ifCond .eq 9, 3) := by decide +kernel
theorem dX0_isByBoat_14 : decode cX0_isByBoat 14 = .ok (.iload_n 2, 1) := by decide +kernel
theorem dX0_isByBoat_15 : decode cX0_isByBoat 15 = .ok (.bipush 6, 2) := by decide +kernel
theorem dX0_isByBoat_17 : decode cX0_isByBoat 17 = .ok (.if_icmp .ne 5, 3) := by decide +kernel
theorem dX0_isByBoat_20 : decode cX0_isByBoat 20 = .ok (.iconst 0, 1) := by decide +kernel
theorem dX0_isByBoat_21 : decode cX0_isByBoat 21 = .ok (.ireturn, 1) := by decide +kernel
theorem dX0_isByBoat_22 : decode cX0_isByBoat 22 = .ok (.iconst 0, 1) := by decide +kernel
theorem dX0_isByBoat_23 : decode cX0_isByBoat 23 = .ok (.istore_n 3, 1) := by decide +kernel
theorem dX0_isByBoat_24 : decode cX0_isByBoat 24 = .ok (.iload_n 3, 1) := by decide +kernel
theorem dX0_isByBoat_25 : decode cX0_isByBoat 25 = .ok (.iconst 4, 1) := by decide +kernel
theorem dX0_isByBoat_26 : decode cX0_isByBoat 26 = .ok (.if_icmp .ge 35, 3) := by decide +kernel
theorem dX0_isByBoat_29 : decode cX0_isByBoat 29 = .ok (.iload_n 1, 1) := by decide +kernel
theorem dX0_isByBoat_30 : decode cX0_isByBoat 30 = .ok (.iload_n 3, 1) := by decide +kernel
theorem dX0_isByBoat_31 : decode cX0_isByBoat 31 = .ok (.invokestatic 104, 3) := by decide +kernel
theorem dX0_isByBoat_34 : decode cX0_isByBoat 34 = .ok (.istore 4, 2) := by decide +kernel
theorem dX0_isByBoat_36 : decode cX0_isByBoat 36 = .ok (.iload 4, 2) := by decide +kernel
theorem dX0_isByBoat_38 : decode cX0_isByBoat 38 = .ok (.invokestatic 73, 3) := by decide +kernel
theorem dX0_isByBoat_41 : decode cX0_isByBoat 41 = .ok (.ifCond .eq 14, 3) := by decide +kernel
theorem dX0_isByBoat_44 : decode cX0_isByBoat 44 = .ok (.aload_n 0, 1) := by decide +kernel
theorem dX0_isByBoat_45 : decode cX0_isByBoat 45 = .ok (.iload 4, 2) := by decide +kernel
theorem dX0_isByBoat_47 : decode cX0_isByBoat 47 = .ok (.invokevirtual 121, 3) := by decide +kernel
theorem dX0_isByBoat_50 : decode cX0_isByBoat 50 = .ok (.ifCond .eq 5, 3) := by decide +kernel
theorem dX0_isByBoat_53 : decode cX0_isByBoat 53 = .ok (.iconst 1, 1) := by decide +kernel
theorem dX0_isByBoat_54 : decode cX0_isByBoat 54 = .ok (.ireturn, 1) := by decide +kernel
theorem dX0_isByBoat_55 : decode cX0_isByBoat 55 = .ok (.iinc 3 1, 3) := by decide +kernel
theorem dX0_isByBoat_58 : decode cX0_isByBoat 58 = .ok (.goto (-34), 3) := by decide +kernel
theorem dX0_isByBoat_61 : decode cX0_isByBoat 61 = .ok (.iconst 0, 1) := by decide +kernel
theorem dX0_isByBoat_62 : decode cX0_isByBoat 62 = .ok (.ireturn, 1) := by decide +kernel
set_option maxRecDepth 20000 in
theorem ggX0_neighboursOfKind_X1_neighbour : GoodIn wsX0_neighboursOfKind wsX1_neighbour := goodIn_r _ [4] (by decide +kernel) (by decide +kernel)
set_option maxRecDepth 20000 in
theorem gX0_neighboursOfKind_X1_neighbour_n104 : GoodIn wsX0_neighboursOfKind (wsX1_neighbour) := ggX0_neighboursOfKind_X1_neighbour
set_option maxRecDepth 20000 in
theorem ggX0_neighboursOfKind_X1_isLot : GoodIn wsX0_neighboursOfKind wsX1_isLot := goodIn_r _ [6] (by decide +kernel) (by decide +kernel)
set_option maxRecDepth 20000 in
theorem gX0_neighboursOfKind_X1_isLot_n73 : GoodIn wsX0_neighboursOfKind (wsX1_isLot) := ggX0_neighboursOfKind_X1_isLot
theorem dX0_neighboursOfKind_0 : decode cX0_neighboursOfKind 0 = .ok (.iconst 0, 1) := by decide +kernel
theorem dX0_neighboursOfKind_1 : decode cX0_neighboursOfKind 1 = .ok (.istore_n 3, 1) := by decide +kernel
theorem dX0_neighboursOfKind_2 : decode cX0_neighboursOfKind 2 = .ok (.iconst 0, 1) := by decide +kernel
theorem dX0_neighboursOfKind_3 : decode cX0_neighboursOfKind 3 = .ok (.istore 4, 2) := by decide +kernel
theorem dX0_neighboursOfKind_5 : decode cX0_neighboursOfKind 5 = .ok (.iload 4, 2) := by decide +kernel
theorem dX0_neighboursOfKind_7 : decode cX0_neighboursOfKind 7 = .ok (.iconst 4, 1) := by decide +kernel
theorem dX0_neighboursOfKind_8 : decode cX0_neighboursOfKind 8 = .ok (.if_icmp .ge 39, 3) := by decide +kernel
theorem dX0_neighboursOfKind_11 : decode cX0_neighboursOfKind 11 = .ok (.iload_n 1, 1) := by decide +kernel
theorem dX0_neighboursOfKind_12 : decode cX0_neighboursOfKind 12 = .ok (.iload 4, 2) := by decide +kernel
theorem dX0_neighboursOfKind_14 : decode cX0_neighboursOfKind 14 = .ok (.invokestatic 104, 3) := by decide +kernel
theorem dX0_neighboursOfKind_17 : decode cX0_neighboursOfKind 17 = .ok (.istore 5, 2) := by decide +kernel
theorem dX0_neighboursOfKind_19 : decode cX0_neighboursOfKind 19 = .ok (.iload 5, 2) := by decide +kernel
theorem dX0_neighboursOfKind_21 : decode cX0_neighboursOfKind 21 = .ok (.invokestatic 73, 3) := by decide +kernel
theorem dX0_neighboursOfKind_24 : decode cX0_neighboursOfKind 24 = .ok (.ifCond .eq 17, 3) := by decide +kernel
theorem dX0_neighboursOfKind_27 : decode cX0_neighboursOfKind 27 = .ok (.aload_n 0, 1) := by decide +kernel
theorem dX0_neighboursOfKind_28 : decode cX0_neighboursOfKind 28 = .ok (.getfield 21, 3) := by decide +kernel
theorem dX0_neighboursOfKind_31 : decode cX0_neighboursOfKind 31 = .ok (.iload 5, 2) := by decide +kernel
theorem dX0_neighboursOfKind_33 : decode cX0_neighboursOfKind 33 = .ok (.iaload, 1) := by decide +kernel
theorem dX0_neighboursOfKind_34 : decode cX0_neighboursOfKind 34 = .ok (.iload_n 2, 1) := by decide +kernel
theorem dX0_neighboursOfKind_35 : decode cX0_neighboursOfKind 35 = .ok (.if_icmp .ne 6, 3) := by decide +kernel
theorem dX0_neighboursOfKind_38 : decode cX0_neighboursOfKind 38 = .ok (.iinc 3 1, 3) := by decide +kernel
theorem dX0_neighboursOfKind_41 : decode cX0_neighboursOfKind 41 = .ok (.iinc 4 1, 3) := by decide +kernel
theorem dX0_neighboursOfKind_44 : decode cX0_neighboursOfKind 44 = .ok (.goto (-39), 3) := by decide +kernel
theorem dX0_neighboursOfKind_47 : decode cX0_neighboursOfKind 47 = .ok (.iload_n 3, 1) := by decide +kernel
theorem dX0_neighboursOfKind_48 : decode cX0_neighboursOfKind 48 = .ok (.ireturn, 1) := by decide +kernel
set_option maxRecDepth 20000 in
theorem ggX0_stepsOnFoot_X0_clear : GoodIn wsX0_stepsOnFoot wsX0_clear := goodIn_r _ [5] (by decide +kernel) (by decide +kernel)
set_option maxRecDepth 20000 in
theorem gX0_stepsOnFoot_X0_clear : GoodIn wsX0_stepsOnFoot (va_wsS RX0 80 yX0_clear wsX0_clear) := goodIn_app (goodIn_of _ (by decide +kernel)) ggX0_stepsOnFoot_X0_clear
set_option maxRecDepth 20000 in
theorem ggX0_stepsOnFoot_X0_spread : GoodIn wsX0_stepsOnFoot wsX0_spread := goodIn_r _ [9, 10, 11, 12, 13, 14, 15, 16, 17, 18, 19, 20, 21, 22, 23, 24, 25, 26, 27, 28, 29, 30, 31, 32, 33] (by decide +kernel) (by decide +kernel)
set_option maxRecDepth 20000 in
theorem gX0_stepsOnFoot_X0_spread : GoodIn wsX0_stepsOnFoot (wsV RX0 87 RX0 yX0_spread wsX0_spread) := goodIn_app (goodIn_of _ (by decide +kernel)) ggX0_stepsOnFoot_X0_spread
theorem dX0_stepsOnFoot_0 : decode cX0_stepsOnFoot 0 = .ok (.aload_n 0, 1) := by decide +kernel
theorem dX0_stepsOnFoot_1 : decode cX0_stepsOnFoot 1 = .ok (.getfield 46, 3) := by decide +kernel
theorem dX0_stepsOnFoot_4 : decode cX0_stepsOnFoot 4 = .ok (.iconst (-1), 1) := by decide +kernel
theorem dX0_stepsOnFoot_5 : decode cX0_stepsOnFoot 5 = .ok (.invokestatic 80, 3) := by decide +kernel
theorem dX0_stepsOnFoot_8 : decode cX0_stepsOnFoot 8 = .ok (.aload_n 0, 1) := by decide +kernel
theorem dX0_stepsOnFoot_9 : decode cX0_stepsOnFoot 9 = .ok (.aload_n 0, 1) := by decide +kernel
theorem dX0_stepsOnFoot_10 : decode cX0_stepsOnFoot 10 = .ok (.getfield 46, 3) := by decide +kernel
theorem dX0_stepsOnFoot_13 : decode cX0_stepsOnFoot 13 = .ok (.iload_n 1, 1) := by decide +kernel
theorem dX0_stepsOnFoot_14 : decode cX0_stepsOnFoot 14 = .ok (.iconst 1, 1) := by decide +kernel
theorem dX0_stepsOnFoot_15 : decode cX0_stepsOnFoot 15 = .ok (.iconst 0, 1) := by decide +kernel
theorem dX0_stepsOnFoot_16 : decode cX0_stepsOnFoot 16 = .ok (.iconst 1, 1) := by decide +kernel
theorem dX0_stepsOnFoot_17 : decode cX0_stepsOnFoot 17 = .ok (.invokevirtual 87, 3) := by decide +kernel
theorem dX0_stepsOnFoot_20 : decode cX0_stepsOnFoot 20 = .ok (.aload_n 0, 1) := by decide +kernel
theorem dX0_stepsOnFoot_21 : decode cX0_stepsOnFoot 21 = .ok (.getfield 46, 3) := by decide +kernel
theorem dX0_stepsOnFoot_24 : decode cX0_stepsOnFoot 24 = .ok (.iload_n 2, 1) := by decide +kernel
theorem dX0_stepsOnFoot_25 : decode cX0_stepsOnFoot 25 = .ok (.iaload, 1) := by decide +kernel
theorem dX0_stepsOnFoot_26 : decode cX0_stepsOnFoot 26 = .ok (.ireturn, 1) := by decide +kernel
set_option maxRecDepth 20000 in
theorem ggX0_factOf_X0_lotsOfQuarter : GoodIn wsX0_factOf wsX0_lotsOfQuarter := goodIn_r _ [9, 2, 10, 11, 12, 13, 27, 28, 29, 30, 31, 32, 33, 34, 35, 36, 37, 38, 39] (by decide +kernel) (by decide +kernel)
set_option maxRecDepth 20000 in
theorem gX0_factOf_X0_lotsOfQuarter : GoodIn wsX0_factOf (wsV RX0 124 RX0 yX0_lotsOfQuarter wsX0_lotsOfQuarter) := goodIn_app (goodIn_of _ (by decide +kernel)) ggX0_factOf_X0_lotsOfQuarter
set_option maxRecDepth 20000 in
theorem ggX0_factOf_X0_isByBoat : GoodIn wsX0_factOf wsX0_isByBoat := goodIn_r _ [17, 1, 18, 12, 19, 20, 21, 11, 13, 22, 23, 24, 8, 25, 26, 27, 28, 29, 30, 31, 32, 33, 34, 35, 36, 37, 38, 39] (by decide +kernel) (by decide +kernel)
set_option maxRecDepth 20000 in
theorem gX0_factOf_X0_isByBoat : GoodIn wsX0_factOf (wsV RX0 110 RX0 yX0_isByBoat wsX0_isByBoat) := goodIn_app (goodIn_of _ (by decide +kernel)) ggX0_factOf_X0_isByBoat
set_option maxRecDepth 20000 in
theorem ggX0_factOf_X0_isOpenWater : GoodIn wsX0_factOf wsX0_isOpenWater := goodIn_r _ [25, 26, 27, 28, 29, 30, 31, 32, 33, 34, 35, 36, 37, 38, 39] (by decide +kernel) (by decide +kernel)
set_option maxRecDepth 20000 in
theorem gX0_factOf_X0_isOpenWater : GoodIn wsX0_factOf (wsV RX0 121 RX0 yX0_isOpenWater wsX0_isOpenWater) := goodIn_app (goodIn_of _ (by decide +kernel)) ggX0_factOf_X0_isOpenWater
theorem dX0_factOf_0 : decode cX0_factOf 0 = .ok (.iload_n 2, 1) := by decide +kernel
theorem dX0_factOf_1 : decode cX0_factOf 1 = .ok (.tableswitch 84 0 4 #[35, 42, 49, 55, 77], 35) := by decide +kernel
theorem dX0_factOf_36 : decode cX0_factOf 36 = .ok (.aload_n 0, 1) := by decide +kernel
theorem dX0_factOf_37 : decode cX0_factOf 37 = .ok (.getfield 21, 3) := by decide +kernel
theorem dX0_factOf_40 : decode cX0_factOf 40 = .ok (.iload_n 1, 1) := by decide +kernel
theorem dX0_factOf_41 : decode cX0_factOf 41 = .ok (.iaload, 1) := by decide +kernel
theorem dX0_factOf_42 : decode cX0_factOf 42 = .ok (.ireturn, 1) := by decide +kernel
theorem dX0_factOf_43 : decode cX0_factOf 43 = .ok (.aload_n 0, 1) := by decide +kernel
theorem dX0_factOf_44 : decode cX0_factOf 44 = .ok (.getfield 25, 3) := by decide +kernel
theorem dX0_factOf_47 : decode cX0_factOf 47 = .ok (.iload_n 1, 1) := by decide +kernel
theorem dX0_factOf_48 : decode cX0_factOf 48 = .ok (.iaload, 1) := by decide +kernel
theorem dX0_factOf_49 : decode cX0_factOf 49 = .ok (.ireturn, 1) := by decide +kernel
theorem dX0_factOf_50 : decode cX0_factOf 50 = .ok (.aload_n 0, 1) := by decide +kernel
theorem dX0_factOf_51 : decode cX0_factOf 51 = .ok (.iload_n 1, 1) := by decide +kernel
theorem dX0_factOf_52 : decode cX0_factOf 52 = .ok (.invokevirtual 124, 3) := by decide +kernel
theorem dX0_factOf_55 : decode cX0_factOf 55 = .ok (.ireturn, 1) := by decide +kernel
theorem dX0_factOf_56 : decode cX0_factOf 56 = .ok (.aload_n 0, 1) := by decide +kernel
theorem dX0_factOf_57 : decode cX0_factOf 57 = .ok (.iload_n 1, 1) := by decide +kernel
theorem dX0_factOf_58 : decode cX0_factOf 58 = .ok (.invokevirtual 110, 3) := by decide +kernel
theorem dX0_factOf_61 : decode cX0_factOf 61 = .ok (.ifCond .ne 11, 3) := by decide +kernel
theorem dX0_factOf_64 : decode cX0_factOf 64 = .ok (.aload_n 0, 1) := by decide +kernel
theorem dX0_factOf_65 : decode cX0_factOf 65 = .ok (.iload_n 1, 1) := by decide +kernel
theorem dX0_factOf_66 : decode cX0_factOf 66 = .ok (.invokevirtual 121, 3) := by decide +kernel
theorem dX0_factOf_69 : decode cX0_factOf 69 = .ok (.ifCond .eq 7, 3) := by decide +kernel
theorem dX0_factOf_72 : decode cX0_factOf 72 = .ok (.iconst 1, 1) := by decide +kernel
theorem dX0_factOf_73 : decode cX0_factOf 73 = .ok (.goto 4, 3) := by decide +kernel
theorem dX0_factOf_76 : decode cX0_factOf 76 = .ok (.iconst 0, 1) := by decide +kernel
theorem dX0_factOf_77 : decode cX0_factOf 77 = .ok (.ireturn, 1) := by decide +kernel
theorem dX0_factOf_78 : decode cX0_factOf 78 = .ok (.aload_n 0, 1) := by decide +kernel
theorem dX0_factOf_79 : decode cX0_factOf 79 = .ok (.getfield 40, 3) := by decide +kernel
theorem dX0_factOf_82 : decode cX0_factOf 82 = .ok (.iload_n 1, 1) := by decide +kernel
theorem dX0_factOf_83 : decode cX0_factOf 83 = .ok (.iaload, 1) := by decide +kernel
theorem dX0_factOf_84 : decode cX0_factOf 84 = .ok (.ireturn, 1) := by decide +kernel
theorem dX0_factOf_85 : decode cX0_factOf 85 = .ok (.aload_n 0, 1) := by decide +kernel
theorem dX0_factOf_86 : decode cX0_factOf 86 = .ok (.getfield 43, 3) := by decide +kernel
theorem dX0_factOf_89 : decode cX0_factOf 89 = .ok (.iload_n 1, 1) := by decide +kernel
theorem dX0_factOf_90 : decode cX0_factOf 90 = .ok (.iaload, 1) := by decide +kernel
theorem dX0_factOf_91 : decode cX0_factOf 91 = .ok (.ireturn, 1) := by decide +kernel
set_option maxRecDepth 20000 in
theorem ggX0_total_X0_quartersOfAll : GoodIn wsX0_total wsX0_quartersOfAll := goodIn_r _ [8, 9, 28, 29, 30, 31, 32, 33, 34, 35, 36, 37, 38, 39, 40] (by decide +kernel) (by decide +kernel)
set_option maxRecDepth 20000 in
theorem gX0_total_X0_quartersOfAll : GoodIn wsX0_total (wsV RX0 127 RX0 yX0_quartersOfAll wsX0_quartersOfAll) := goodIn_app (goodIn_of _ (by decide +kernel)) ggX0_total_X0_quartersOfAll
set_option maxRecDepth 20000 in
theorem ggX0_total_X0_complaintsOfAll : GoodIn wsX0_total wsX0_complaintsOfAll := goodIn_r _ [13, 14, 15, 16, 7, 17, 28, 29, 30, 31, 32, 33, 34, 35, 36, 37, 38, 39, 40] (by decide +kernel) (by decide +kernel)
set_option maxRecDepth 20000 in
theorem gX0_total_X0_complaintsOfAll : GoodIn wsX0_total (wsV RX0 130 RX0 yX0_complaintsOfAll wsX0_complaintsOfAll) := goodIn_app (goodIn_of _ (by decide +kernel)) ggX0_total_X0_complaintsOfAll
set_option maxRecDepth 20000 in
theorem ggX0_total_X0_duesOfAll : GoodIn wsX0_total wsX0_duesOfAll := goodIn_r _ [21, 22, 15, 16, 7, 17, 28, 29, 30, 31, 32, 33, 34, 35, 36, 37, 38, 39, 40] (by decide +kernel) (by decide +kernel)
set_option maxRecDepth 20000 in
theorem gX0_total_X0_duesOfAll : GoodIn wsX0_total (wsV RX0 59 RX0 yX0_duesOfAll wsX0_duesOfAll) := goodIn_app (goodIn_of _ (by decide +kernel)) ggX0_total_X0_duesOfAll
set_option maxRecDepth 20000 in
theorem ggX0_total_X0_lotsOfKind : GoodIn wsX0_total wsX0_lotsOfKind := goodIn_r _ [26, 27, 28, 29, 30, 31, 32, 33, 34, 35, 36, 37, 38, 39, 40] (by decide +kernel) (by decide +kernel)
set_option maxRecDepth 20000 in
theorem gX0_total_X0_lotsOfKind : GoodIn wsX0_total (wsV RX0 133 RX0 yX0_lotsOfKind wsX0_lotsOfKind) := goodIn_app (goodIn_of _ (by decide +kernel)) ggX0_total_X0_lotsOfKind
theorem dX0_total_0 : decode cX0_total 0 = .ok (.iload_n 1, 1) := by decide +kernel
theorem dX0_total_1 : decode cX0_total 1 = .ok (.tableswitch 97 0 12 #[67, 72, 97, 97, 97, 97, 97, 97, 97, 77, 82, 87, 92], 67) := by decide +kernel
theorem dX0_total_68 : decode cX0_total 68 = .ok (.aload_n 0, 1) := by decide +kernel
theorem dX0_total_69 : decode cX0_total 69 = .ok (.getfield 9, 3) := by decide +kernel
theorem dX0_total_72 : decode cX0_total 72 = .ok (.ireturn, 1) := by decide +kernel
theorem dX0_total_73 : decode cX0_total 73 = .ok (.aload_n 0, 1) := by decide +kernel
theorem dX0_total_74 : decode cX0_total 74 = .ok (.getfield 15, 3) := by decide +kernel
theorem dX0_total_77 : decode cX0_total 77 = .ok (.ireturn, 1) := by decide +kernel
theorem dX0_total_78 : decode cX0_total 78 = .ok (.aload_n 0, 1) := by decide +kernel
theorem dX0_total_79 : decode cX0_total 79 = .ok (.invokevirtual 127, 3) := by decide +kernel
theorem dX0_total_82 : decode cX0_total 82 = .ok (.ireturn, 1) := by decide +kernel
theorem dX0_total_83 : decode cX0_total 83 = .ok (.aload_n 0, 1) := by decide +kernel
theorem dX0_total_84 : decode cX0_total 84 = .ok (.invokevirtual 130, 3) := by decide +kernel
theorem dX0_total_87 : decode cX0_total 87 = .ok (.ireturn, 1) := by decide +kernel
theorem dX0_total_88 : decode cX0_total 88 = .ok (.aload_n 0, 1) := by decide +kernel
theorem dX0_total_89 : decode cX0_total 89 = .ok (.invokevirtual 59, 3) := by decide +kernel
theorem dX0_total_92 : decode cX0_total 92 = .ok (.ireturn, 1) := by decide +kernel
theorem dX0_total_93 : decode cX0_total 93 = .ok (.aload_n 0, 1) := by decide +kernel
theorem dX0_total_94 : decode cX0_total 94 = .ok (.getfield 18, 3) := by decide +kernel
theorem dX0_total_97 : decode cX0_total 97 = .ok (.ireturn, 1) := by decide +kernel
theorem dX0_total_98 : decode cX0_total 98 = .ok (.aload_n 0, 1) := by decide +kernel
theorem dX0_total_99 : decode cX0_total 99 = .ok (.iload_n 1, 1) := by decide +kernel
theorem dX0_total_100 : decode cX0_total 100 = .ok (.iconst 2, 1) := by decide +kernel
theorem dX0_total_101 : decode cX0_total 101 = .ok (.isub, 1) := by decide +kernel
theorem dX0_total_102 : decode cX0_total 102 = .ok (.invokevirtual 133, 3) := by decide +kernel
theorem dX0_total_105 : decode cX0_total 105 = .ok (.ireturn, 1) := by decide +kernel
theorem dX0_lotsOfKind_0 : decode cX0_lotsOfKind 0 = .ok (.iconst 0, 1) := by decide +kernel
theorem dX0_lotsOfKind_1 : decode cX0_lotsOfKind 1 = .ok (.istore_n 2, 1) := by decide +kernel
theorem dX0_lotsOfKind_2 : decode cX0_lotsOfKind 2 = .ok (.iconst 0, 1) := by decide +kernel
theorem dX0_lotsOfKind_3 : decode cX0_lotsOfKind 3 = .ok (.istore_n 3, 1) := by decide +kernel
theorem dX0_lotsOfKind_4 : decode cX0_lotsOfKind 4 = .ok (.iload_n 3, 1) := by decide +kernel
theorem dX0_lotsOfKind_5 : decode cX0_lotsOfKind 5 = .ok (.bipush 64, 2) := by decide +kernel
theorem dX0_lotsOfKind_7 : decode cX0_lotsOfKind 7 = .ok (.if_icmp .ge 22, 3) := by decide +kernel
theorem dX0_lotsOfKind_10 : decode cX0_lotsOfKind 10 = .ok (.aload_n 0, 1) := by decide +kernel
theorem dX0_lotsOfKind_11 : decode cX0_lotsOfKind 11 = .ok (.getfield 21, 3) := by decide +kernel
theorem dX0_lotsOfKind_14 : decode cX0_lotsOfKind 14 = .ok (.iload_n 3, 1) := by decide +kernel
theorem dX0_lotsOfKind_15 : decode cX0_lotsOfKind 15 = .ok (.iaload, 1) := by decide +kernel
theorem dX0_lotsOfKind_16 : decode cX0_lotsOfKind 16 = .ok (.iload_n 1, 1) := by decide +kernel
theorem dX0_lotsOfKind_17 : decode cX0_lotsOfKind 17 = .ok (.if_icmp .ne 6, 3) := by decide +kernel
theorem dX0_lotsOfKind_20 : decode cX0_lotsOfKind 20 = .ok (.iinc 2 1, 3) := by decide +kernel
theorem dX0_lotsOfKind_23 : decode cX0_lotsOfKind 23 = .ok (.iinc 3 1, 3) := by decide +kernel
theorem dX0_lotsOfKind_26 : decode cX0_lotsOfKind 26 = .ok (.goto (-22), 3) := by decide +kernel
theorem dX0_lotsOfKind_29 : decode cX0_lotsOfKind 29 = .ok (.iload_n 2, 1) := by decide +kernel
theorem dX0_lotsOfKind_30 : decode cX0_lotsOfKind 30 = .ok (.ireturn, 1) := by decide +kernel
theorem dX0_quartersOfAll_0 : decode cX0_quartersOfAll 0 = .ok (.iconst 0, 1) := by decide +kernel
theorem dX0_quartersOfAll_1 : decode cX0_quartersOfAll 1 = .ok (.istore_n 1, 1) := by decide +kernel
theorem dX0_quartersOfAll_2 : decode cX0_quartersOfAll 2 = .ok (.iconst 0, 1) := by decide +kernel
theorem dX0_quartersOfAll_3 : decode cX0_quartersOfAll 3 = .ok (.istore_n 2, 1) := by decide +kernel
theorem dX0_quartersOfAll_4 : decode cX0_quartersOfAll 4 = .ok (.iload_n 2, 1) := by decide +kernel
theorem dX0_quartersOfAll_5 : decode cX0_quartersOfAll 5 = .ok (.bipush 64, 2) := by decide +kernel
theorem dX0_quartersOfAll_7 : decode cX0_quartersOfAll 7 = .ok (.if_icmp .ge 22, 3) := by decide +kernel
theorem dX0_quartersOfAll_10 : decode cX0_quartersOfAll 10 = .ok (.aload_n 0, 1) := by decide +kernel
theorem dX0_quartersOfAll_11 : decode cX0_quartersOfAll 11 = .ok (.getfield 25, 3) := by decide +kernel
theorem dX0_quartersOfAll_14 : decode cX0_quartersOfAll 14 = .ok (.iload_n 2, 1) := by decide +kernel
theorem dX0_quartersOfAll_15 : decode cX0_quartersOfAll 15 = .ok (.iaload, 1) := by decide +kernel
theorem dX0_quartersOfAll_16 : decode cX0_quartersOfAll 16 = .ok (.iload_n 2, 1) := by decide +kernel
theorem dX0_quartersOfAll_17 : decode cX0_quartersOfAll 17 = .ok (.if_icmp .ne 6, 3) := by decide +kernel
theorem dX0_quartersOfAll_20 : decode cX0_quartersOfAll 20 = .ok (.iinc 1 1, 3) := by decide +kernel
theorem dX0_quartersOfAll_23 : decode cX0_quartersOfAll 23 = .ok (.iinc 2 1, 3) := by decide +kernel
theorem dX0_quartersOfAll_26 : decode cX0_quartersOfAll 26 = .ok (.goto (-22), 3) := by decide +kernel
theorem dX0_quartersOfAll_29 : decode cX0_quartersOfAll 29 = .ok (.iload_n 1, 1) := by decide +kernel
theorem dX0_quartersOfAll_30 : decode cX0_quartersOfAll 30 = .ok (.ireturn, 1) := by decide +kernel
set_option maxRecDepth 20000 in
theorem ggX0_complaintsOfAll_X0_sum : GoodIn wsX0_complaintsOfAll wsX0_sum := goodIn_r _ [5] (by decide +kernel) (by decide +kernel)
set_option maxRecDepth 20000 in
theorem gX0_complaintsOfAll_X0_sum : GoodIn wsX0_complaintsOfAll (va_wsS RX0 136 yX0_sum wsX0_sum) := goodIn_app (goodIn_of _ (by decide +kernel)) ggX0_complaintsOfAll_X0_sum
theorem dX0_complaintsOfAll_0 : decode cX0_complaintsOfAll 0 = .ok (.aload_n 0, 1) := by decide +kernel
theorem dX0_complaintsOfAll_1 : decode cX0_complaintsOfAll 1 = .ok (.getfield 40, 3) := by decide +kernel
theorem dX0_complaintsOfAll_4 : decode cX0_complaintsOfAll 4 = .ok (.invokestatic 136, 3) := by decide +kernel
theorem dX0_complaintsOfAll_7 : decode cX0_complaintsOfAll 7 = .ok (.ireturn, 1) := by decide +kernel
set_option maxRecDepth 20000 in
theorem ggX0_duesOfAll_X0_sum : GoodIn wsX0_duesOfAll wsX0_sum := goodIn_r _ [5] (by decide +kernel) (by decide +kernel)
set_option maxRecDepth 20000 in
theorem gX0_duesOfAll_X0_sum : GoodIn wsX0_duesOfAll (va_wsS RX0 136 yX0_sum wsX0_sum) := goodIn_app (goodIn_of _ (by decide +kernel)) ggX0_duesOfAll_X0_sum
theorem dX0_duesOfAll_0 : decode cX0_duesOfAll 0 = .ok (.aload_n 0, 1) := by decide +kernel
theorem dX0_duesOfAll_1 : decode cX0_duesOfAll 1 = .ok (.getfield 43, 3) := by decide +kernel
theorem dX0_duesOfAll_4 : decode cX0_duesOfAll 4 = .ok (.invokestatic 136, 3) := by decide +kernel
theorem dX0_duesOfAll_7 : decode cX0_duesOfAll 7 = .ok (.ireturn, 1) := by decide +kernel
theorem dX0_sum_0 : decode cX0_sum 0 = .ok (.iconst 0, 1) := by decide +kernel
theorem dX0_sum_1 : decode cX0_sum 1 = .ok (.istore_n 1, 1) := by decide +kernel
theorem dX0_sum_2 : decode cX0_sum 2 = .ok (.iconst 0, 1) := by decide +kernel
theorem dX0_sum_3 : decode cX0_sum 3 = .ok (.istore_n 2, 1) := by decide +kernel
theorem dX0_sum_4 : decode cX0_sum 4 = .ok (.iload_n 2, 1) := by decide +kernel
theorem dX0_sum_5 : decode cX0_sum 5 = .ok (.aload_n 0, 1) := by decide +kernel
theorem dX0_sum_6 : decode cX0_sum 6 = .ok (.arraylength, 1) := by decide +kernel
theorem dX0_sum_7 : decode cX0_sum 7 = .ok (.if_icmp .ge 15, 3) := by decide +kernel
theorem dX0_sum_10 : decode cX0_sum 10 = .ok (.iload_n 1, 1) := by decide +kernel
theorem dX0_sum_11 : decode cX0_sum 11 = .ok (.aload_n 0, 1) := by decide +kernel
theorem dX0_sum_12 : decode cX0_sum 12 = .ok (.iload_n 2, 1) := by decide +kernel
theorem dX0_sum_13 : decode cX0_sum 13 = .ok (.iaload, 1) := by decide +kernel
theorem dX0_sum_14 : decode cX0_sum 14 = .ok (.iadd, 1) := by decide +kernel
theorem dX0_sum_15 : decode cX0_sum 15 = .ok (.istore_n 1, 1) := by decide +kernel
theorem dX0_sum_16 : decode cX0_sum 16 = .ok (.iinc 2 1, 3) := by decide +kernel
theorem dX0_sum_19 : decode cX0_sum 19 = .ok (.goto (-15), 3) := by decide +kernel
theorem dX0_sum_22 : decode cX0_sum 22 = .ok (.iload_n 1, 1) := by decide +kernel
theorem dX0_sum_23 : decode cX0_sum 23 = .ok (.ireturn, 1) := by decide +kernel
set_option maxRecDepth 20000 in
theorem ggX1_init_X0_init : GoodIn wsX1_init wsX0_init := goodIn_r _ [11, 12, 2, 3, 13, 14, 15, 16, 17, 18, 19, 20, 21, 22, 23, 24, 25, 26, 27, 28, 29, 6, 30, 31, 32, 33, 34, 35, 36, 37, 38, 39, 40, 41, 42, 43, 44, 45, 46, 47, 48, 49, 50, 51, 52, 53, 54, 55, 56, 57, 58, 59, 60, 61, 62, 63, 64, 65, 66, 67, 68, 69, 70, 71, 72, 73, 74, 75, 76, 77, 78, 79, 80, 81, 82, 83, 84, 85, 86, 87, 88, 89, 90, 91, 92, 93, 94, 95, 96, 97, 98, 99] (by decide +kernel) (by decide +kernel)
set_option maxRecDepth 20000 in
theorem gX1_init_X0_init : GoodIn wsX1_init (wsX0_init) := ggX1_init_X0_init
theorem dX1_init_0 : decode cX1_init 0 = .ok (.aload_n 0, 1) := by decide +kernel
theorem dX1_init_1 : decode cX1_init 1 = .ok (.invokespecial 1, 3) := by decide +kernel
theorem dX1_init_4 : decode cX1_init 4 = .ok (.aload_n 0, 1) := by decide +kernel
theorem dX1_init_5 : decode cX1_init 5 = .ok (.new 7, 3) := by decide +kernel
theorem dX1_init_8 : decode cX1_init 8 = .ok (.dup, 1) := by decide +kernel
theorem dX1_init_9 : decode cX1_init 9 = .ok (.invokespecial 9, 3) := by decide +kernel
theorem dX1_init_12 : decode cX1_init 12 = .ok (.putfield 10, 3) := by decide +kernel
theorem dX1_init_15 : decode cX1_init 15 = .ok (.aload_n 0, 1) := by decide +kernel
theorem dX1_init_16 : decode cX1_init 16 = .ok (.new 7, 3) := by decide +kernel
theorem dX1_init_19 : decode cX1_init 19 = .ok (.dup, 1) := by decide +kernel
theorem dX1_init_20 : decode cX1_init 20 = .ok (.invokespecial 9, 3) := by decide +kernel
theorem dX1_init_23 : decode cX1_init 23 = .ok (.putfield 16, 3) := by decide +kernel
theorem dX1_init_26 : decode cX1_init 26 = .ok (.return_, 1) := by decide +kernel
set_option maxRecDepth 20000 in
theorem ggX1_drain_X1_checkedNumber : GoodIn wsX1_drain wsX1_checkedNumber := goodIn_ca (goodIn_r _ [7, 8, 9] (by decide +kernel) (by decide +kernel)) (goodIn_sub (fun _ h => List.mem_cons_of_mem _ (List.mem_append_right _ h)) (by decide +kernel))
set_option maxRecDepth 20000 in
theorem gX1_drain_X1_checkedNumber : GoodIn wsX1_drain (va_wsS RX1 19 yX1_checkedNumber wsX1_checkedNumber) := goodIn_app (goodIn_of _ (by decide +kernel)) ggX1_drain_X1_checkedNumber
set_option maxRecDepth 20000 in
theorem ggX1_drain_X1_checkCoins : GoodIn wsX1_drain wsX1_checkCoins := goodIn_ca (goodIn_r _ [13, 1, 2, 3, 92, 93, 94, 95, 96, 97, 98, 99, 100, 101, 102, 103, 104, 105, 106] (by decide +kernel) (by decide +kernel)) (goodIn_sub (fun _ h => List.mem_cons_of_mem _ (List.mem_append_left _ (List.mem_append_right _ h))) (by decide +kernel))
set_option maxRecDepth 20000 in
theorem gX1_drain_X1_checkCoins : GoodIn wsX1_drain (wsV RX1 34 RX1 yX1_checkCoins wsX1_checkCoins) := goodIn_app (goodIn_of _ (by decide +kernel)) ggX1_drain_X1_checkCoins
set_option maxRecDepth 20000 in
theorem ggX1_drain_X0_buy : GoodIn wsX1_drain wsX0_buy := goodIn_r _ [18, 19, 20, 21, 22, 17, 23, 24, 25, 26, 27, 28, 29, 30, 31, 32, 33, 34, 35, 36, 37, 38, 39, 40, 41, 42, 43, 6, 44, 45, 46, 47, 48, 49, 50, 51, 52, 53, 54, 55, 56, 57, 58, 59, 60, 61, 62, 63, 64, 65, 66, 67, 68, 69, 70, 71, 72, 73, 74, 75, 76, 77, 78, 79, 80, 81, 82, 83, 84, 85, 86, 87, 88, 89, 90, 91, 94, 95, 96, 97, 98, 99, 100, 101, 102, 103, 104, 105, 106] (by decide +kernel) (by decide +kernel)
set_option maxRecDepth 20000 in
theorem gX1_drain_X0_buy : GoodIn wsX1_drain (wsV RX1 38 RX0 yX0_buy wsX0_buy) := goodIn_app (goodIn_of _ (by decide +kernel)) ggX1_drain_X0_buy
theorem dX1_drain_0 : decode cX1_drain 0 = .ok (.iload_n 1, 1) := by decide +kernel
theorem dX1_drain_1 : decode cX1_drain 1 = .ok (.iload_n 2, 1) := by decide +kernel
theorem dX1_drain_2 : decode cX1_drain 2 = .ok (.invokestatic 19, 3) := by decide +kernel
theorem dX1_drain_5 : decode cX1_drain 5 = .ok (.istore_n 3, 1) := by decide +kernel
theorem dX1_drain_6 : decode cX1_drain 6 = .ok (.aload_n 0, 1) := by decide +kernel
theorem dX1_drain_7 : decode cX1_drain 7 = .ok (.getfield 10, 3) := by decide +kernel
theorem dX1_drain_10 : decode cX1_drain 10 = .ok (.getfield 23, 3) := by decide +kernel
theorem dX1_drain_13 : decode cX1_drain 13 = .ok (.iload_n 3, 1) := by decide +kernel
theorem dX1_drain_14 : decode cX1_drain 14 = .ok (.iaload, 1) := by decide +kernel
theorem dX1_drain_15 : decode cX1_drain 15 = .ok (.ifCond .eq 13, 3) := by decide +kernel
theorem dX1_drain_18 : decode cX1_drain 18 = .ok (.new 27, 3) := by decide +kernel
theorem dX1_drain_21 : decode cX1_drain 21 = .ok (.dup, 1) := by decide +kernel
theorem dX1_drain_22 : decode cX1_drain 22 = .ok (.ldc 29, 2) := by decide +kernel
theorem dX1_drain_24 : decode cX1_drain 24 = .ok (.invokespecial 31, 3) := by decide +kernel
theorem dX1_drain_27 : decode cX1_drain 27 = .ok (.athrow, 1) := by decide +kernel
theorem dX1_drain_28 : decode cX1_drain 28 = .ok (.aload_n 0, 1) := by decide +kernel
theorem dX1_drain_29 : decode cX1_drain 29 = .ok (.iconst 2, 1) := by decide +kernel
theorem dX1_drain_30 : decode cX1_drain 30 = .ok (.invokevirtual 34, 3) := by decide +kernel
theorem dX1_drain_33 : decode cX1_drain 33 = .ok (.aload_n 0, 1) := by decide +kernel
theorem dX1_drain_34 : decode cX1_drain 34 = .ok (.getfield 10, 3) := by decide +kernel
theorem dX1_drain_37 : decode cX1_drain 37 = .ok (.iload_n 3, 1) := by decide +kernel
theorem dX1_drain_38 : decode cX1_drain 38 = .ok (.iconst 2, 1) := by decide +kernel
theorem dX1_drain_39 : decode cX1_drain 39 = .ok (.iconst 2, 1) := by decide +kernel
theorem dX1_drain_40 : decode cX1_drain 40 = .ok (.invokevirtual 38, 3) := by decide +kernel
theorem dX1_drain_43 : decode cX1_drain 43 = .ok (.aload_n 0, 1) := by decide +kernel
theorem dX1_drain_44 : decode cX1_drain 44 = .ok (.getfield 10, 3) := by decide +kernel
theorem dX1_drain_47 : decode cX1_drain 47 = .ok (.getfield 42, 3) := by decide +kernel
theorem dX1_drain_50 : decode cX1_drain 50 = .ok (.ireturn, 1) := by decide +kernel
set_option maxRecDepth 20000 in
theorem ggX1_dig_X1_checkedNumber : GoodIn wsX1_dig wsX1_checkedNumber := goodIn_ca (goodIn_r _ [7, 8, 9] (by decide +kernel) (by decide +kernel)) (goodIn_sub (fun _ h => List.mem_cons_of_mem _ (List.mem_append_right _ h)) (by decide +kernel))
set_option maxRecDepth 20000 in
theorem gX1_dig_X1_checkedNumber : GoodIn wsX1_dig (va_wsS RX1 19 yX1_checkedNumber wsX1_checkedNumber) := goodIn_app (goodIn_of _ (by decide +kernel)) ggX1_dig_X1_checkedNumber
set_option maxRecDepth 20000 in
theorem ggX1_dig_X1_checkCoins : GoodIn wsX1_dig wsX1_checkCoins := goodIn_ca (goodIn_r _ [13, 1, 2, 3, 92, 93, 94, 95, 96, 97, 98, 99, 100, 101, 102, 103, 104, 105, 106] (by decide +kernel) (by decide +kernel)) (goodIn_sub (fun _ h => List.mem_cons_of_mem _ (List.mem_append_left _ (List.mem_append_right _ h))) (by decide +kernel))
set_option maxRecDepth 20000 in
theorem gX1_dig_X1_checkCoins : GoodIn wsX1_dig (wsV RX1 34 RX1 yX1_checkCoins wsX1_checkCoins) := goodIn_app (goodIn_of _ (by decide +kernel)) ggX1_dig_X1_checkCoins
set_option maxRecDepth 20000 in
theorem ggX1_dig_X0_buy : GoodIn wsX1_dig wsX0_buy := goodIn_r _ [18, 19, 20, 21, 22, 17, 23, 24, 25, 26, 27, 28, 29, 30, 31, 32, 33, 34, 35, 36, 37, 38, 39, 40, 41, 42, 43, 6, 44, 45, 46, 47, 48, 49, 50, 51, 52, 53, 54, 55, 56, 57, 58, 59, 60, 61, 62, 63, 64, 65, 66, 67, 68, 69, 70, 71, 72, 73, 74, 75, 76, 77, 78, 79, 80, 81, 82, 83, 84, 85, 86, 87, 88, 89, 90, 91, 94, 95, 96, 97, 98, 99, 100, 101, 102, 103, 104, 105, 106] (by decide +kernel) (by decide +kernel)
set_option maxRecDepth 20000 in
theorem gX1_dig_X0_buy : GoodIn wsX1_dig (wsV RX1 38 RX0 yX0_buy wsX0_buy) := goodIn_app (goodIn_of _ (by decide +kernel)) ggX1_dig_X0_buy
theorem dX1_dig_0 : decode cX1_dig 0 = .ok (.iload_n 1, 1) := by decide +kernel
theorem dX1_dig_1 : decode cX1_dig 1 = .ok (.iload_n 2, 1) := by decide +kernel
theorem dX1_dig_2 : decode cX1_dig 2 = .ok (.invokestatic 19, 3) := by decide +kernel
theorem dX1_dig_5 : decode cX1_dig 5 = .ok (.istore_n 3, 1) := by decide +kernel
theorem dX1_dig_6 : decode cX1_dig 6 = .ok (.aload_n 0, 1) := by decide +kernel
theorem dX1_dig_7 : decode cX1_dig 7 = .ok (.getfield 10, 3) := by decide +kernel
theorem dX1_dig_10 : decode cX1_dig 10 = .ok (.getfield 23, 3) := by decide +kernel
theorem dX1_dig_13 : decode cX1_dig 13 = .ok (.iload_n 3, 1) := by decide +kernel
theorem dX1_dig_14 : decode cX1_dig 14 = .ok (.iaload, 1) := by decide +kernel
theorem dX1_dig_15 : decode cX1_dig 15 = .ok (.istore 4, 2) := by decide +kernel
theorem dX1_dig_17 : decode cX1_dig 17 = .ok (.iload 4, 2) := by decide +kernel
theorem dX1_dig_19 : decode cX1_dig 19 = .ok (.ifCond .eq 19, 3) := by decide +kernel
theorem dX1_dig_22 : decode cX1_dig 22 = .ok (.iload 4, 2) := by decide +kernel
theorem dX1_dig_24 : decode cX1_dig 24 = .ok (.iconst 2, 1) := by decide +kernel
theorem dX1_dig_25 : decode cX1_dig 25 = .ok (.if_icmp .eq 13, 3) := by decide +kernel
theorem dX1_dig_28 : decode cX1_dig 28 = .ok (.new 27, 3) := by decide +kernel
theorem dX1_dig_31 : decode cX1_dig 31 = .ok (.dup, 1) := by decide +kernel
theorem dX1_dig_32 : decode cX1_dig 32 = .ok (.ldc 46, 2) := by decide +kernel
theorem dX1_dig_34 : decode cX1_dig 34 = .ok (.invokespecial 31, 3) := by decide +kernel
theorem dX1_dig_37 : decode cX1_dig 37 = .ok (.athrow, 1) := by decide +kernel
theorem dX1_dig_38 : decode cX1_dig 38 = .ok (.aload_n 0, 1) := by decide +kernel
theorem dX1_dig_39 : decode cX1_dig 39 = .ok (.iconst 3, 1) := by decide +kernel
theorem dX1_dig_40 : decode cX1_dig 40 = .ok (.invokevirtual 34, 3) := by decide +kernel
theorem dX1_dig_43 : decode cX1_dig 43 = .ok (.aload_n 0, 1) := by decide +kernel
theorem dX1_dig_44 : decode cX1_dig 44 = .ok (.getfield 10, 3) := by decide +kernel
theorem dX1_dig_47 : decode cX1_dig 47 = .ok (.iload_n 3, 1) := by decide +kernel
theorem dX1_dig_48 : decode cX1_dig 48 = .ok (.iconst 1, 1) := by decide +kernel
theorem dX1_dig_49 : decode cX1_dig 49 = .ok (.iconst 3, 1) := by decide +kernel
theorem dX1_dig_50 : decode cX1_dig 50 = .ok (.invokevirtual 38, 3) := by decide +kernel
theorem dX1_dig_53 : decode cX1_dig 53 = .ok (.aload_n 0, 1) := by decide +kernel
theorem dX1_dig_54 : decode cX1_dig 54 = .ok (.getfield 10, 3) := by decide +kernel
theorem dX1_dig_57 : decode cX1_dig 57 = .ok (.getfield 42, 3) := by decide +kernel
theorem dX1_dig_60 : decode cX1_dig 60 = .ok (.ireturn, 1) := by decide +kernel
set_option maxRecDepth 20000 in
theorem ggX1_build_X1_checkedNumber : GoodIn wsX1_build wsX1_checkedNumber := goodIn_ca (goodIn_r _ [5, 6, 7] (by decide +kernel) (by decide +kernel)) (goodIn_sub (fun _ h => List.mem_cons_of_mem _ (List.mem_append_left _ (List.mem_append_left _ (List.mem_append_right _ h)))) (by decide +kernel))
set_option maxRecDepth 20000 in
theorem gX1_build_X1_checkedNumber : GoodIn wsX1_build (va_wsS RX1 19 yX1_checkedNumber wsX1_checkedNumber) := goodIn_app (goodIn_of _ (by decide +kernel)) ggX1_build_X1_checkedNumber
set_option maxRecDepth 20000 in
theorem ggX1_build_X1_checkBuilding : GoodIn wsX1_build wsX1_checkBuilding := goodIn_ca (goodIn_r _ [10, 11, 12] (by decide +kernel) (by decide +kernel)) (goodIn_sub (fun _ h => List.mem_cons_of_mem _ (List.mem_append_left _ (List.mem_append_right _ h))) (by decide +kernel))
set_option maxRecDepth 20000 in
theorem gX1_build_X1_checkBuilding : GoodIn wsX1_build (va_wsS RX1 48 yX1_checkBuilding wsX1_checkBuilding) := goodIn_app (goodIn_of _ (by decide +kernel)) ggX1_build_X1_checkBuilding
set_option maxRecDepth 20000 in
theorem ggX1_build_X1_checkDrained : GoodIn wsX1_build wsX1_checkDrained := goodIn_ca (goodIn_r _ [16, 17, 18, 1, 104, 105, 106, 107, 108, 109, 110, 111, 112, 113, 114, 115, 116, 117, 118] (by decide +kernel) (by decide +kernel)) (goodIn_sub (fun _ h => List.mem_cons_of_mem _ (List.mem_append_right _ h)) (by decide +kernel))
set_option maxRecDepth 20000 in
theorem gX1_build_X1_checkDrained : GoodIn wsX1_build (wsV RX1 51 RX1 yX1_checkDrained wsX1_checkDrained) := goodIn_app (goodIn_of _ (by decide +kernel)) ggX1_build_X1_checkDrained
set_option maxRecDepth 20000 in
theorem ggX1_build_X1_costOf : GoodIn wsX1_build wsX1_costOf := goodIn_r _ [21] (by decide +kernel) (by decide +kernel)
set_option maxRecDepth 20000 in
theorem gX1_build_X1_costOf : GoodIn wsX1_build (va_wsS RX1 54 yX1_costOf wsX1_costOf) := goodIn_app (goodIn_of _ (by decide +kernel)) ggX1_build_X1_costOf
set_option maxRecDepth 20000 in
theorem ggX1_build_X1_checkCoins : GoodIn wsX1_build wsX1_checkCoins := goodIn_ca (goodIn_r _ [25, 17, 18, 1, 104, 105, 106, 107, 108, 109, 110, 111, 112, 113, 114, 115, 116, 117, 118] (by decide +kernel) (by decide +kernel)) (goodIn_sub (fun _ h => List.mem_cons_of_mem _ (List.mem_append_right _ h)) (by decide +kernel))
set_option maxRecDepth 20000 in
theorem gX1_build_X1_checkCoins : GoodIn wsX1_build (wsV RX1 34 RX1 yX1_checkCoins wsX1_checkCoins) := goodIn_app (goodIn_of _ (by decide +kernel)) ggX1_build_X1_checkCoins
set_option maxRecDepth 20000 in
theorem ggX1_build_X0_buy : GoodIn wsX1_build wsX0_buy := goodIn_r _ [30, 31, 32, 33, 34, 29, 35, 36, 37, 38, 39, 40, 41, 42, 43, 44, 45, 46, 47, 48, 49, 50, 51, 52, 53, 54, 55, 4, 56, 57, 58, 59, 60, 61, 62, 63, 64, 65, 66, 67, 68, 69, 70, 71, 72, 73, 74, 75, 76, 77, 78, 79, 80, 81, 82, 83, 84, 85, 86, 87, 88, 89, 90, 91, 92, 93, 94, 95, 96, 97, 98, 99, 100, 101, 102, 103, 106, 107, 108, 109, 110, 111, 112, 113, 114, 115, 116, 117, 118] (by decide +kernel) (by decide +kernel)
set_option maxRecDepth 20000 in
theorem gX1_build_X0_buy : GoodIn wsX1_build (wsV RX1 38 RX0 yX0_buy wsX0_buy) := goodIn_app (goodIn_of _ (by decide +kernel)) ggX1_build_X0_buy
theorem dX1_build_0 : decode cX1_build 0 = .ok (.iload_n 1, 1) := by decide +kernel
theorem dX1_build_1 : decode cX1_build 1 = .ok (.iload_n 2, 1) := by decide +kernel
theorem dX1_build_2 : decode cX1_build 2 = .ok (.invokestatic 19, 3) := by decide +kernel
theorem dX1_build_5 : decode cX1_build 5 = .ok (.istore 4, 2) := by decide +kernel
theorem dX1_build_7 : decode cX1_build 7 = .ok (.iload_n 3, 1) := by decide +kernel
theorem dX1_build_8 : decode cX1_build 8 = .ok (.invokestatic 48, 3) := by decide +kernel
theorem dX1_build_11 : decode cX1_build 11 = .ok (.aload_n 0, 1) := by decide +kernel
theorem dX1_build_12 : decode cX1_build 12 = .ok (.iload 4, 2) := by decide +kernel
theorem dX1_build_14 : decode cX1_build 14 = .ok (.invokevirtual 51, 3) := by decide +kernel
theorem dX1_build_17 : decode cX1_build 17 = .ok (.iload_n 3, 1) := by decide +kernel
theorem dX1_build_18 : decode cX1_build 18 = .ok (.invokestatic 54, 3) := by decide +kernel
theorem dX1_build_21 : decode cX1_build 21 = .ok (.istore 5, 2) := by decide +kernel
theorem dX1_build_23 : decode cX1_build 23 = .ok (.aload_n 0, 1) := by decide +kernel
theorem dX1_build_24 : decode cX1_build 24 = .ok (.iload 5, 2) := by decide +kernel
theorem dX1_build_26 : decode cX1_build 26 = .ok (.invokevirtual 34, 3) := by decide +kernel
theorem dX1_build_29 : decode cX1_build 29 = .ok (.aload_n 0, 1) := by decide +kernel
theorem dX1_build_30 : decode cX1_build 30 = .ok (.getfield 10, 3) := by decide +kernel
theorem dX1_build_33 : decode cX1_build 33 = .ok (.iload 4, 2) := by decide +kernel
theorem dX1_build_35 : decode cX1_build 35 = .ok (.iload_n 3, 1) := by decide +kernel
theorem dX1_build_36 : decode cX1_build 36 = .ok (.iload 5, 2) := by decide +kernel
theorem dX1_build_38 : decode cX1_build 38 = .ok (.invokevirtual 38, 3) := by decide +kernel
theorem dX1_build_41 : decode cX1_build 41 = .ok (.aload_n 0, 1) := by decide +kernel
theorem dX1_build_42 : decode cX1_build 42 = .ok (.getfield 10, 3) := by decide +kernel
theorem dX1_build_45 : decode cX1_build 45 = .ok (.getfield 42, 3) := by decide +kernel
theorem dX1_build_48 : decode cX1_build 48 = .ok (.ireturn, 1) := by decide +kernel
set_option maxRecDepth 20000 in
theorem ggX1_bridge_X1_checkedNumber : GoodIn wsX1_bridge wsX1_checkedNumber := goodIn_ca (goodIn_r _ [7, 8, 9] (by decide +kernel) (by decide +kernel)) (goodIn_sub (fun _ h => List.mem_cons_of_mem _ (List.mem_append_right _ h)) (by decide +kernel))
set_option maxRecDepth 20000 in
theorem gX1_bridge_X1_checkedNumber : GoodIn wsX1_bridge (va_wsS RX1 19 yX1_checkedNumber wsX1_checkedNumber) := goodIn_app (goodIn_of _ (by decide +kernel)) ggX1_bridge_X1_checkedNumber
set_option maxRecDepth 20000 in
theorem ggX1_bridge_X1_checkCoins : GoodIn wsX1_bridge wsX1_checkCoins := goodIn_ca (goodIn_r _ [13, 1, 2, 3, 96, 97, 98, 99, 100, 101, 102, 103, 104, 105, 106, 107, 108, 109, 110] (by decide +kernel) (by decide +kernel)) (goodIn_sub (fun _ h => List.mem_cons_of_mem _ (List.mem_append_left _ (List.mem_append_right _ h))) (by decide +kernel))
set_option maxRecDepth 20000 in
theorem gX1_bridge_X1_checkCoins : GoodIn wsX1_bridge (wsV RX1 34 RX1 yX1_checkCoins wsX1_checkCoins) := goodIn_app (goodIn_of _ (by decide +kernel)) ggX1_bridge_X1_checkCoins
set_option maxRecDepth 20000 in
theorem ggX1_bridge_X0_buy : GoodIn wsX1_bridge wsX0_buy := goodIn_r _ [18, 19, 20, 21, 22, 17, 23, 24, 25, 26, 27, 28, 29, 30, 31, 32, 33, 34, 35, 36, 37, 38, 39, 40, 41, 42, 43, 6, 44, 45, 46, 47, 48, 49, 50, 51, 52, 53, 54, 55, 56, 57, 58, 59, 60, 61, 62, 63, 64, 65, 66, 67, 68, 69, 70, 71, 72, 73, 74, 75, 76, 77, 78, 79, 80, 81, 82, 83, 84, 85, 86, 87, 88, 89, 90, 91, 98, 99, 100, 101, 102, 103, 104, 105, 106, 107, 108, 109, 110] (by decide +kernel) (by decide +kernel)
set_option maxRecDepth 20000 in
theorem gX1_bridge_X0_buy : GoodIn wsX1_bridge (wsV RX1 38 RX0 yX0_buy wsX0_buy) := goodIn_app (goodIn_of _ (by decide +kernel)) ggX1_bridge_X0_buy
set_option maxRecDepth 20000 in
theorem ggX1_bridge_X0_lotsOfQuarter : GoodIn wsX1_bridge wsX0_lotsOfQuarter := goodIn_r _ [95, 36, 37, 50, 6, 51, 98, 99, 100, 101, 102, 103, 104, 105, 106, 107, 108, 109, 110] (by decide +kernel) (by decide +kernel)
set_option maxRecDepth 20000 in
theorem gX1_bridge_X0_lotsOfQuarter : GoodIn wsX1_bridge (wsV RX1 60 RX0 yX0_lotsOfQuarter wsX0_lotsOfQuarter) := goodIn_app (goodIn_of _ (by decide +kernel)) ggX1_bridge_X0_lotsOfQuarter
theorem dX1_bridge_0 : decode cX1_bridge 0 = .ok (.iload_n 1, 1) := by decide +kernel
theorem dX1_bridge_1 : decode cX1_bridge 1 = .ok (.iload_n 2, 1) := by decide +kernel
theorem dX1_bridge_2 : decode cX1_bridge 2 = .ok (.invokestatic 19, 3) := by decide +kernel
theorem dX1_bridge_5 : decode cX1_bridge 5 = .ok (.istore_n 3, 1) := by decide +kernel
theorem dX1_bridge_6 : decode cX1_bridge 6 = .ok (.aload_n 0, 1) := by decide +kernel
theorem dX1_bridge_7 : decode cX1_bridge 7 = .ok (.getfield 10, 3) := by decide +kernel
theorem dX1_bridge_10 : decode cX1_bridge 10 = .ok (.getfield 23, 3) := by decide +kernel
theorem dX1_bridge_13 : decode cX1_bridge 13 = .ok (.iload_n 3, 1) := by decide +kernel
theorem dX1_bridge_14 : decode cX1_bridge 14 = .ok (.iaload, 1) := by decide +kernel
theorem dX1_bridge_15 : decode cX1_bridge 15 = .ok (.iconst 1, 1) := by decide +kernel
theorem dX1_bridge_16 : decode cX1_bridge 16 = .ok (.if_icmp .eq 13, 3) := by decide +kernel
theorem dX1_bridge_19 : decode cX1_bridge 19 = .ok (.new 27, 3) := by decide +kernel
theorem dX1_bridge_22 : decode cX1_bridge 22 = .ok (.dup, 1) := by decide +kernel
theorem dX1_bridge_23 : decode cX1_bridge 23 = .ok (.ldc 58, 2) := by decide +kernel
theorem dX1_bridge_25 : decode cX1_bridge 25 = .ok (.invokespecial 31, 3) := by decide +kernel
theorem dX1_bridge_28 : decode cX1_bridge 28 = .ok (.athrow, 1) := by decide +kernel
theorem dX1_bridge_29 : decode cX1_bridge 29 = .ok (.aload_n 0, 1) := by decide +kernel
theorem dX1_bridge_30 : decode cX1_bridge 30 = .ok (.bipush 7, 2) := by decide +kernel
theorem dX1_bridge_32 : decode cX1_bridge 32 = .ok (.invokevirtual 34, 3) := by decide +kernel
theorem dX1_bridge_35 : decode cX1_bridge 35 = .ok (.aload_n 0, 1) := by decide +kernel
theorem dX1_bridge_36 : decode cX1_bridge 36 = .ok (.getfield 10, 3) := by decide +kernel
theorem dX1_bridge_39 : decode cX1_bridge 39 = .ok (.iload_n 3, 1) := by decide +kernel
theorem dX1_bridge_40 : decode cX1_bridge 40 = .ok (.bipush 6, 2) := by decide +kernel
theorem dX1_bridge_42 : decode cX1_bridge 42 = .ok (.bipush 7, 2) := by decide +kernel
theorem dX1_bridge_44 : decode cX1_bridge 44 = .ok (.invokevirtual 38, 3) := by decide +kernel
theorem dX1_bridge_47 : decode cX1_bridge 47 = .ok (.aload_n 0, 1) := by decide +kernel
theorem dX1_bridge_48 : decode cX1_bridge 48 = .ok (.getfield 10, 3) := by decide +kernel
theorem dX1_bridge_51 : decode cX1_bridge 51 = .ok (.iload_n 3, 1) := by decide +kernel
theorem dX1_bridge_52 : decode cX1_bridge 52 = .ok (.invokevirtual 60, 3) := by decide +kernel
theorem dX1_bridge_55 : decode cX1_bridge 55 = .ok (.ireturn, 1) := by decide +kernel
set_option maxRecDepth 20000 in
theorem ggX1_raze_X1_checkedNumber : GoodIn wsX1_raze wsX1_checkedNumber := goodIn_ca (goodIn_r _ [7, 8, 9] (by decide +kernel) (by decide +kernel)) (goodIn_sub (fun _ h => List.mem_cons_of_mem _ (List.mem_append_right _ h)) (by decide +kernel))
set_option maxRecDepth 20000 in
theorem gX1_raze_X1_checkedNumber : GoodIn wsX1_raze (va_wsS RX1 19 yX1_checkedNumber wsX1_checkedNumber) := goodIn_app (goodIn_of _ (by decide +kernel)) ggX1_raze_X1_checkedNumber
set_option maxRecDepth 20000 in
theorem ggX1_raze_X0_change : GoodIn wsX1_raze wsX0_change := goodIn_r _ [14, 15, 16, 17, 18, 13, 19, 20, 21, 22, 23, 24, 25, 26, 27, 28, 29, 30, 31, 32, 33, 34, 6, 35, 36, 37, 38, 39, 40, 41, 42, 43, 44, 45, 46, 47, 48, 49, 50, 51, 52, 53, 54, 55, 56, 57, 58, 59, 60, 61, 62, 63, 64, 65, 66, 67, 68, 69, 70, 71, 72, 73, 74, 75, 76, 77, 78, 79, 80, 81, 82, 85, 86, 87, 88, 89, 90, 91, 92, 93, 94, 95, 96, 97] (by decide +kernel) (by decide +kernel)
set_option maxRecDepth 20000 in
theorem gX1_raze_X0_change : GoodIn wsX1_raze (wsV RX1 65 RX0 yX0_change wsX0_change) := goodIn_app (goodIn_of _ (by decide +kernel)) ggX1_raze_X0_change
theorem dX1_raze_0 : decode cX1_raze 0 = .ok (.iload_n 1, 1) := by decide +kernel
theorem dX1_raze_1 : decode cX1_raze 1 = .ok (.iload_n 2, 1) := by decide +kernel
theorem dX1_raze_2 : decode cX1_raze 2 = .ok (.invokestatic 19, 3) := by decide +kernel
theorem dX1_raze_5 : decode cX1_raze 5 = .ok (.istore_n 3, 1) := by decide +kernel
theorem dX1_raze_6 : decode cX1_raze 6 = .ok (.aload_n 0, 1) := by decide +kernel
theorem dX1_raze_7 : decode cX1_raze 7 = .ok (.getfield 10, 3) := by decide +kernel
theorem dX1_raze_10 : decode cX1_raze 10 = .ok (.getfield 23, 3) := by decide +kernel
theorem dX1_raze_13 : decode cX1_raze 13 = .ok (.iload_n 3, 1) := by decide +kernel
theorem dX1_raze_14 : decode cX1_raze 14 = .ok (.iaload, 1) := by decide +kernel
theorem dX1_raze_15 : decode cX1_raze 15 = .ok (.istore 4, 2) := by decide +kernel
theorem dX1_raze_17 : decode cX1_raze 17 = .ok (.iload 4, 2) := by decide +kernel
theorem dX1_raze_19 : decode cX1_raze 19 = .ok (.iconst 3, 1) := by decide +kernel
theorem dX1_raze_20 : decode cX1_raze 20 = .ok (.if_icmp .lt 10, 3) := by decide +kernel
theorem dX1_raze_23 : decode cX1_raze 23 = .ok (.iload 4, 2) := by decide +kernel
theorem dX1_raze_25 : decode cX1_raze 25 = .ok (.bipush 6, 2) := by decide +kernel
theorem dX1_raze_27 : decode cX1_raze 27 = .ok (.if_icmp .le 13, 3) := by decide +kernel
theorem dX1_raze_30 : decode cX1_raze 30 = .ok (.new 27, 3) := by decide +kernel
theorem dX1_raze_33 : decode cX1_raze 33 = .ok (.dup, 1) := by decide +kernel
theorem dX1_raze_34 : decode cX1_raze 34 = .ok (.ldc 63, 2) := by decide +kernel
theorem dX1_raze_36 : decode cX1_raze 36 = .ok (.invokespecial 31, 3) := by decide +kernel
theorem dX1_raze_39 : decode cX1_raze 39 = .ok (.athrow, 1) := by decide +kernel
theorem dX1_raze_40 : decode cX1_raze 40 = .ok (.aload_n 0, 1) := by decide +kernel
theorem dX1_raze_41 : decode cX1_raze 41 = .ok (.getfield 10, 3) := by decide +kernel
theorem dX1_raze_44 : decode cX1_raze 44 = .ok (.iload_n 3, 1) := by decide +kernel
theorem dX1_raze_45 : decode cX1_raze 45 = .ok (.iload 4, 2) := by decide +kernel
theorem dX1_raze_47 : decode cX1_raze 47 = .ok (.bipush 6, 2) := by decide +kernel
theorem dX1_raze_49 : decode cX1_raze 49 = .ok (.if_icmp .ne 7, 3) := by decide +kernel
theorem dX1_raze_52 : decode cX1_raze 52 = .ok (.iconst 1, 1) := by decide +kernel
theorem dX1_raze_53 : decode cX1_raze 53 = .ok (.goto 4, 3) := by decide +kernel
theorem dX1_raze_56 : decode cX1_raze 56 = .ok (.iconst 2, 1) := by decide +kernel
theorem dX1_raze_57 : decode cX1_raze 57 = .ok (.invokevirtual 65, 3) := by decide +kernel
theorem dX1_raze_60 : decode cX1_raze 60 = .ok (.iload 4, 2) := by decide +kernel
theorem dX1_raze_62 : decode cX1_raze 62 = .ok (.ireturn, 1) := by decide +kernel
set_option maxRecDepth 20000 in
theorem ggX1_lot_X1_checkedNumber : GoodIn wsX1_lot wsX1_checkedNumber := goodIn_ca (goodIn_r _ [7, 1, 2] (by decide +kernel) (by decide +kernel)) (goodIn_sub (fun _ h => List.mem_cons_of_mem _ (List.mem_append_right _ h)) (by decide +kernel))
set_option maxRecDepth 20000 in
theorem gX1_lot_X1_checkedNumber : GoodIn wsX1_lot (va_wsS RX1 19 yX1_checkedNumber wsX1_checkedNumber) := goodIn_app (goodIn_of _ (by decide +kernel)) ggX1_lot_X1_checkedNumber
set_option maxRecDepth 20000 in
theorem ggX1_lot_X0_factOf : GoodIn wsX1_lot wsX0_factOf := goodIn_r _ [12, 13, 14, 15, 16, 17, 18, 19, 11, 20, 21, 22, 6, 23, 24, 25, 26, 27, 28, 29, 30, 31, 32, 33, 34, 35, 36, 39, 40, 41, 42, 43, 44, 45, 46, 47, 48, 49, 50, 51] (by decide +kernel) (by decide +kernel)
set_option maxRecDepth 20000 in
theorem gX1_lot_X0_factOf : GoodIn wsX1_lot (wsV RX1 74 RX0 yX0_factOf wsX0_factOf) := goodIn_app (goodIn_of _ (by decide +kernel)) ggX1_lot_X0_factOf
theorem dX1_lot_0 : decode cX1_lot 0 = .ok (.iload_n 1, 1) := by decide +kernel
theorem dX1_lot_1 : decode cX1_lot 1 = .ok (.iload_n 2, 1) := by decide +kernel
theorem dX1_lot_2 : decode cX1_lot 2 = .ok (.invokestatic 19, 3) := by decide +kernel
theorem dX1_lot_5 : decode cX1_lot 5 = .ok (.istore 4, 2) := by decide +kernel
theorem dX1_lot_7 : decode cX1_lot 7 = .ok (.iload_n 3, 1) := by decide +kernel
theorem dX1_lot_8 : decode cX1_lot 8 = .ok (.ifCond .lt 8, 3) := by decide +kernel
theorem dX1_lot_11 : decode cX1_lot 11 = .ok (.iload_n 3, 1) := by decide +kernel
theorem dX1_lot_12 : decode cX1_lot 12 = .ok (.iconst 5, 1) := by decide +kernel
theorem dX1_lot_13 : decode cX1_lot 13 = .ok (.if_icmp .le 13, 3) := by decide +kernel
theorem dX1_lot_16 : decode cX1_lot 16 = .ok (.new 69, 3) := by decide +kernel
theorem dX1_lot_19 : decode cX1_lot 19 = .ok (.dup, 1) := by decide +kernel
theorem dX1_lot_20 : decode cX1_lot 20 = .ok (.ldc 71, 2) := by decide +kernel
theorem dX1_lot_22 : decode cX1_lot 22 = .ok (.invokespecial 73, 3) := by decide +kernel
theorem dX1_lot_25 : decode cX1_lot 25 = .ok (.athrow, 1) := by decide +kernel
theorem dX1_lot_26 : decode cX1_lot 26 = .ok (.aload_n 0, 1) := by decide +kernel
theorem dX1_lot_27 : decode cX1_lot 27 = .ok (.getfield 10, 3) := by decide +kernel
theorem dX1_lot_30 : decode cX1_lot 30 = .ok (.iload 4, 2) := by decide +kernel
theorem dX1_lot_32 : decode cX1_lot 32 = .ok (.iload_n 3, 1) := by decide +kernel
theorem dX1_lot_33 : decode cX1_lot 33 = .ok (.invokevirtual 74, 3) := by decide +kernel
theorem dX1_lot_36 : decode cX1_lot 36 = .ok (.ireturn, 1) := by decide +kernel
set_option maxRecDepth 20000 in
theorem ggX1_count_X0_total : GoodIn wsX1_count wsX0_total := goodIn_r _ [8, 9, 10, 11, 12, 13, 14, 7, 15, 16, 17, 18, 19, 20, 21, 22, 23, 24, 25, 26, 27, 28, 29, 30, 31, 32, 33, 34, 37, 38, 39, 40, 41, 42, 43, 44, 45, 46, 47, 48, 49] (by decide +kernel) (by decide +kernel)
set_option maxRecDepth 20000 in
theorem gX1_count_X0_total : GoodIn wsX1_count (wsV RX1 79 RX0 yX0_total wsX0_total) := goodIn_app (goodIn_of _ (by decide +kernel)) ggX1_count_X0_total
theorem dX1_count_0 : decode cX1_count 0 = .ok (.iload_n 1, 1) := by decide +kernel
theorem dX1_count_1 : decode cX1_count 1 = .ok (.ifCond .lt 9, 3) := by decide +kernel
theorem dX1_count_4 : decode cX1_count 4 = .ok (.iload_n 1, 1) := by decide +kernel
theorem dX1_count_5 : decode cX1_count 5 = .ok (.bipush 12, 2) := by decide +kernel
theorem dX1_count_7 : decode cX1_count 7 = .ok (.if_icmp .le 13, 3) := by decide +kernel
theorem dX1_count_10 : decode cX1_count 10 = .ok (.new 69, 3) := by decide +kernel
theorem dX1_count_13 : decode cX1_count 13 = .ok (.dup, 1) := by decide +kernel
theorem dX1_count_14 : decode cX1_count 14 = .ok (.ldc 77, 2) := by decide +kernel
theorem dX1_count_16 : decode cX1_count 16 = .ok (.invokespecial 73, 3) := by decide +kernel
theorem dX1_count_19 : decode cX1_count 19 = .ok (.athrow, 1) := by decide +kernel
theorem dX1_count_20 : decode cX1_count 20 = .ok (.aload_n 0, 1) := by decide +kernel
theorem dX1_count_21 : decode cX1_count 21 = .ok (.getfield 10, 3) := by decide +kernel
theorem dX1_count_24 : decode cX1_count 24 = .ok (.iload_n 1, 1) := by decide +kernel
theorem dX1_count_25 : decode cX1_count 25 = .ok (.invokevirtual 79, 3) := by decide +kernel
theorem dX1_count_28 : decode cX1_count 28 = .ok (.ireturn, 1) := by decide +kernel
set_option maxRecDepth 20000 in
theorem ggX1_walk_X1_checkNumber : GoodIn wsX1_walk wsX1_checkNumber := goodIn_ca (goodIn_r _ [7, 8, 9, 10, 11, 6, 12] (by decide +kernel) (by decide +kernel)) (goodIn_sub (fun _ h => List.mem_cons_of_mem _ (List.mem_append_right _ h)) (by decide +kernel))
set_option maxRecDepth 20000 in
theorem gX1_walk_X1_checkNumber : GoodIn wsX1_walk (va_wsS RX1 82 yX1_checkNumber wsX1_checkNumber) := goodIn_app (goodIn_of _ (by decide +kernel)) ggX1_walk_X1_checkNumber
set_option maxRecDepth 20000 in
theorem ggX1_walk_X1_isLand : GoodIn wsX1_walk wsX1_isLand := goodIn_r _ [15] (by decide +kernel) (by decide +kernel)
set_option maxRecDepth 20000 in
theorem gX1_walk_X1_isLand : GoodIn wsX1_walk (va_wsS RX1 85 yX1_isLand wsX1_isLand) := goodIn_app (goodIn_of _ (by decide +kernel)) ggX1_walk_X1_isLand
set_option maxRecDepth 20000 in
theorem ggX1_walk_X0_stepsOnFoot : GoodIn wsX1_walk wsX0_stepsOnFoot := goodIn_r _ [20, 21, 22, 23, 19, 24, 25, 26, 27, 28, 29, 30, 11, 6, 12, 31, 32, 14, 15, 33, 34, 37, 38, 39, 40, 41, 42, 43, 44, 45, 46, 47, 48, 49] (by decide +kernel) (by decide +kernel)
set_option maxRecDepth 20000 in
theorem gX1_walk_X0_stepsOnFoot : GoodIn wsX1_walk (wsV RX1 91 RX0 yX0_stepsOnFoot wsX0_stepsOnFoot) := goodIn_app (goodIn_of _ (by decide +kernel)) ggX1_walk_X0_stepsOnFoot
theorem dX1_walk_0 : decode cX1_walk 0 = .ok (.iload_n 1, 1) := by decide +kernel
theorem dX1_walk_1 : decode cX1_walk 1 = .ok (.invokestatic 82, 3) := by decide +kernel
theorem dX1_walk_4 : decode cX1_walk 4 = .ok (.iload_n 2, 1) := by decide +kernel
theorem dX1_walk_5 : decode cX1_walk 5 = .ok (.invokestatic 82, 3) := by decide +kernel
theorem dX1_walk_8 : decode cX1_walk 8 = .ok (.aload_n 0, 1) := by decide +kernel
theorem dX1_walk_9 : decode cX1_walk 9 = .ok (.getfield 10, 3) := by decide +kernel
theorem dX1_walk_12 : decode cX1_walk 12 = .ok (.getfield 23, 3) := by decide +kernel
theorem dX1_walk_15 : decode cX1_walk 15 = .ok (.iload_n 1, 1) := by decide +kernel
theorem dX1_walk_16 : decode cX1_walk 16 = .ok (.iaload, 1) := by decide +kernel
theorem dX1_walk_17 : decode cX1_walk 17 = .ok (.invokestatic 85, 3) := by decide +kernel
theorem dX1_walk_20 : decode cX1_walk 20 = .ok (.ifCond .eq 18, 3) := by decide +kernel
theorem dX1_walk_23 : decode cX1_walk 23 = .ok (.aload_n 0, 1) := by decide +kernel
theorem dX1_walk_24 : decode cX1_walk 24 = .ok (.getfield 10, 3) := by decide +kernel
theorem dX1_walk_27 : decode cX1_walk 27 = .ok (.getfield 23, 3) := by decide +kernel
theorem dX1_walk_30 : decode cX1_walk 30 = .ok (.iload_n 2, 1) := by decide +kernel
theorem dX1_walk_31 : decode cX1_walk 31 = .ok (.iaload, 1) := by decide +kernel
theorem dX1_walk_32 : decode cX1_walk 32 = .ok (.invokestatic 85, 3) := by decide +kernel
theorem dX1_walk_35 : decode cX1_walk 35 = .ok (.ifCond .ne 13, 3) := by decide +kernel
theorem dX1_walk_38 : decode cX1_walk 38 = .ok (.new 27, 3) := by decide +kernel
theorem dX1_walk_41 : decode cX1_walk 41 = .ok (.dup, 1) := by decide +kernel
theorem dX1_walk_42 : decode cX1_walk 42 = .ok (.ldc 89, 2) := by decide +kernel
theorem dX1_walk_44 : decode cX1_walk 44 = .ok (.invokespecial 31, 3) := by decide +kernel
theorem dX1_walk_47 : decode cX1_walk 47 = .ok (.athrow, 1) := by decide +kernel
theorem dX1_walk_48 : decode cX1_walk 48 = .ok (.aload_n 0, 1) := by decide +kernel
theorem dX1_walk_49 : decode cX1_walk 49 = .ok (.getfield 10, 3) := by decide +kernel
theorem dX1_walk_52 : decode cX1_walk 52 = .ok (.iload_n 1, 1) := by decide +kernel
theorem dX1_walk_53 : decode cX1_walk 53 = .ok (.iload_n 2, 1) := by decide +kernel
theorem dX1_walk_54 : decode cX1_walk 54 = .ok (.invokevirtual 91, 3) := by decide +kernel
theorem dX1_walk_57 : decode cX1_walk 57 = .ok (.ireturn, 1) := by decide +kernel
set_option maxRecDepth 20000 in
theorem ggX1_sail_X1_checkNumber : GoodIn wsX1_sail wsX1_checkNumber := goodIn_ca (goodIn_r _ [7, 8, 9, 10, 11, 6, 12] (by decide +kernel) (by decide +kernel)) (goodIn_sub (fun _ h => List.mem_cons_of_mem _ (List.mem_append_right _ h)) (by decide +kernel))
set_option maxRecDepth 20000 in
theorem gX1_sail_X1_checkNumber : GoodIn wsX1_sail (va_wsS RX1 82 yX1_checkNumber wsX1_checkNumber) := goodIn_app (goodIn_of _ (by decide +kernel)) ggX1_sail_X1_checkNumber
set_option maxRecDepth 20000 in
theorem ggX1_sail_X1_isWater : GoodIn wsX1_sail wsX1_isWater := goodIn_r _ [15] (by decide +kernel) (by decide +kernel)
set_option maxRecDepth 20000 in
theorem gX1_sail_X1_isWater : GoodIn wsX1_sail (va_wsS RX1 94 yX1_isWater wsX1_isWater) := goodIn_app (goodIn_of _ (by decide +kernel)) ggX1_sail_X1_isWater
theorem dX1_sail_0 : decode cX1_sail 0 = .ok (.iload_n 1, 1) := by decide +kernel
theorem dX1_sail_1 : decode cX1_sail 1 = .ok (.invokestatic 82, 3) := by decide +kernel
theorem dX1_sail_4 : decode cX1_sail 4 = .ok (.aload_n 0, 1) := by decide +kernel
theorem dX1_sail_5 : decode cX1_sail 5 = .ok (.getfield 10, 3) := by decide +kernel
theorem dX1_sail_8 : decode cX1_sail 8 = .ok (.getfield 23, 3) := by decide +kernel
theorem dX1_sail_11 : decode cX1_sail 11 = .ok (.iload_n 1, 1) := by decide +kernel
theorem dX1_sail_12 : decode cX1_sail 12 = .ok (.iaload, 1) := by decide +kernel
theorem dX1_sail_13 : decode cX1_sail 13 = .ok (.invokestatic 94, 3) := by decide +kernel
theorem dX1_sail_16 : decode cX1_sail 16 = .ok (.ifCond .ne 13, 3) := by decide +kernel
theorem dX1_sail_19 : decode cX1_sail 19 = .ok (.new 27, 3) := by decide +kernel
theorem dX1_sail_22 : decode cX1_sail 22 = .ok (.dup, 1) := by decide +kernel
theorem dX1_sail_23 : decode cX1_sail 23 = .ok (.ldc 97, 2) := by decide +kernel
theorem dX1_sail_25 : decode cX1_sail 25 = .ok (.invokespecial 31, 3) := by decide +kernel
theorem dX1_sail_28 : decode cX1_sail 28 = .ok (.athrow, 1) := by decide +kernel
theorem dX1_sail_29 : decode cX1_sail 29 = .ok (.aload_n 0, 1) := by decide +kernel
theorem dX1_sail_30 : decode cX1_sail 30 = .ok (.getfield 10, 3) := by decide +kernel
theorem dX1_sail_33 : decode cX1_sail 33 = .ok (.getfield 99, 3) := by decide +kernel
theorem dX1_sail_36 : decode cX1_sail 36 = .ok (.iload_n 1, 1) := by decide +kernel
theorem dX1_sail_37 : decode cX1_sail 37 = .ok (.iaload, 1) := by decide +kernel
theorem dX1_sail_38 : decode cX1_sail 38 = .ok (.ireturn, 1) := by decide +kernel
set_option maxRecDepth 20000 in
theorem ggX1_pass_X1_checkMonths : GoodIn wsX1_pass wsX1_checkMonths := goodIn_ca (goodIn_r _ [5, 6, 7] (by decide +kernel) (by decide +kernel)) (goodIn_sub (fun _ h => List.mem_cons_of_mem _ (List.mem_append_right _ h)) (by decide +kernel))
set_option maxRecDepth 20000 in
theorem gX1_pass_X1_checkMonths : GoodIn wsX1_pass (va_wsS RX1 102 yX1_checkMonths wsX1_checkMonths) := goodIn_app (goodIn_of _ (by decide +kernel)) ggX1_pass_X1_checkMonths
set_option maxRecDepth 20000 in
theorem ggX1_pass_X0_live : GoodIn wsX1_pass wsX0_live := goodIn_r _ [12, 13, 14, 15, 16, 17, 11, 18, 19, 20, 21, 22, 23, 24, 25, 26, 27, 28, 29, 30, 31, 32, 33, 34, 35, 36, 37, 38, 39, 4, 40, 41, 42, 43, 44, 45, 46, 47, 48, 49, 50, 51, 52, 53, 54, 55, 56, 57, 58, 59, 60, 61, 62, 63, 64, 65, 66, 67, 68, 69, 70, 71, 72, 73, 74, 75, 76, 77, 78, 79, 80, 81, 82, 83, 84, 85, 86, 87, 88, 89, 90, 91, 92, 93, 94, 95, 96, 97, 98, 101, 102, 103, 104, 105, 106, 107, 108, 109, 110, 111, 112, 113] (by decide +kernel) (by decide +kernel)
set_option maxRecDepth 20000 in
theorem gX1_pass_X0_live : GoodIn wsX1_pass (wsV RX1 105 RX0 yX0_live wsX0_live) := goodIn_app (goodIn_of _ (by decide +kernel)) ggX1_pass_X0_live
theorem dX1_pass_0 : decode cX1_pass 0 = .ok (.iload_n 1, 1) := by decide +kernel
theorem dX1_pass_1 : decode cX1_pass 1 = .ok (.invokestatic 102, 3) := by decide +kernel
theorem dX1_pass_4 : decode cX1_pass 4 = .ok (.aload_n 0, 1) := by decide +kernel
theorem dX1_pass_5 : decode cX1_pass 5 = .ok (.getfield 10, 3) := by decide +kernel
theorem dX1_pass_8 : decode cX1_pass 8 = .ok (.iload_n 1, 1) := by decide +kernel
theorem dX1_pass_9 : decode cX1_pass 9 = .ok (.invokevirtual 105, 3) := by decide +kernel
theorem dX1_pass_12 : decode cX1_pass 12 = .ok (.ireturn, 1) := by decide +kernel
set_option maxRecDepth 20000 in
theorem ggX1_foresee_X1_checkMonths : GoodIn wsX1_foresee wsX1_checkMonths := goodIn_ca (goodIn_r _ [8, 9, 10] (by decide +kernel) (by decide +kernel)) (goodIn_sub (fun _ h => List.mem_cons_of_mem _ (List.mem_append_right _ h)) (by decide +kernel))
set_option maxRecDepth 20000 in
theorem gX1_foresee_X1_checkMonths : GoodIn wsX1_foresee (va_wsS RX1 102 yX1_checkMonths wsX1_checkMonths) := goodIn_app (goodIn_of _ (by decide +kernel)) ggX1_foresee_X1_checkMonths
set_option maxRecDepth 20000 in
theorem ggX1_foresee_X0_become : GoodIn wsX1_foresee wsX0_become := goodIn_r _ [15, 16, 17, 18, 19, 125, 126, 127, 128, 129, 130, 131, 132, 133, 134, 135, 136, 137] (by decide +kernel) (by decide +kernel)
set_option maxRecDepth 20000 in
theorem gX1_foresee_X0_become : GoodIn wsX1_foresee (wsV RX1 110 RX0 yX0_become wsX0_become) := goodIn_app (goodIn_of _ (by decide +kernel)) ggX1_foresee_X0_become
set_option maxRecDepth 20000 in
theorem ggX1_foresee_X0_survey : GoodIn wsX1_foresee wsX0_survey := goodIn_r _ [23, 24, 19, 25, 26, 27, 28, 29, 14, 30, 31, 32, 33, 34, 35, 36, 37, 38, 7, 39, 40, 41, 42, 43, 44, 45, 46, 47, 48, 49, 50, 51, 52, 53, 54, 55, 56, 57, 58, 59, 60, 61, 62, 63, 64, 65, 66, 67, 68, 69, 70, 71, 72, 73, 74, 75, 76, 77, 78, 79, 80, 81, 82, 83, 84, 85, 86, 125, 126, 127, 128, 129, 130, 131, 132, 133, 134, 135, 136, 137] (by decide +kernel) (by decide +kernel)
set_option maxRecDepth 20000 in
theorem gX1_foresee_X0_survey : GoodIn wsX1_foresee (wsV RX1 114 RX0 yX0_survey wsX0_survey) := goodIn_app (goodIn_of _ (by decide +kernel)) ggX1_foresee_X0_survey
set_option maxRecDepth 20000 in
theorem ggX1_foresee_X0_live : GoodIn wsX1_foresee wsX0_live := goodIn_r _ [90, 17, 16, 91, 92, 93, 14, 94, 26, 95, 96, 97, 98, 99, 100, 101, 19, 25, 18, 102, 103, 104, 105, 44, 71, 72, 73, 74, 47, 7, 48, 45, 46, 106, 21, 22, 23, 24, 27, 28, 29, 30, 31, 32, 33, 34, 35, 36, 37, 38, 39, 40, 41, 42, 43, 49, 50, 51, 52, 53, 54, 55, 56, 57, 58, 59, 60, 61, 62, 63, 64, 65, 66, 67, 68, 69, 70, 75, 76, 77, 78, 79, 80, 81, 82, 83, 84, 85, 86, 125, 126, 127, 128, 129, 130, 131, 132, 133, 134, 135, 136, 137] (by decide +kernel) (by decide +kernel)
set_option maxRecDepth 20000 in
theorem gX1_foresee_X0_live : GoodIn wsX1_foresee (wsV RX1 105 RX0 yX0_live wsX0_live) := goodIn_app (goodIn_of _ (by decide +kernel)) ggX1_foresee_X0_live
set_option maxRecDepth 20000 in
theorem ggX1_foresee_X0_total : GoodIn wsX1_foresee wsX0_total := goodIn_r _ [110, 16, 17, 18, 111, 112, 113, 14, 114, 31, 115, 116, 117, 118, 25, 95, 96, 97, 91, 92, 93, 94, 26, 119, 120, 121, 122, 19, 125, 126, 127, 128, 129, 130, 131, 132, 133, 134, 135, 136, 137] (by decide +kernel) (by decide +kernel)
set_option maxRecDepth 20000 in
theorem gX1_foresee_X0_total : GoodIn wsX1_foresee (wsV RX1 79 RX0 yX0_total wsX0_total) := goodIn_app (goodIn_of _ (by decide +kernel)) ggX1_foresee_X0_total
theorem dX1_foresee_0 : decode cX1_foresee 0 = .ok (.iload_n 1, 1) := by decide +kernel
theorem dX1_foresee_1 : decode cX1_foresee 1 = .ok (.invokestatic 102, 3) := by decide +kernel
theorem dX1_foresee_4 : decode cX1_foresee 4 = .ok (.iload_n 2, 1) := by decide +kernel
theorem dX1_foresee_5 : decode cX1_foresee 5 = .ok (.iconst 1, 1) := by decide +kernel
theorem dX1_foresee_6 : decode cX1_foresee 6 = .ok (.if_icmp .lt 9, 3) := by decide +kernel
theorem dX1_foresee_9 : decode cX1_foresee 9 = .ok (.iload_n 2, 1) := by decide +kernel
theorem dX1_foresee_10 : decode cX1_foresee 10 = .ok (.bipush 12, 2) := by decide +kernel
theorem dX1_foresee_12 : decode cX1_foresee 12 = .ok (.if_icmp .le 13, 3) := by decide +kernel
theorem dX1_foresee_15 : decode cX1_foresee 15 = .ok (.new 69, 3) := by decide +kernel
theorem dX1_foresee_18 : decode cX1_foresee 18 = .ok (.dup, 1) := by decide +kernel
theorem dX1_foresee_19 : decode cX1_foresee 19 = .ok (.ldc 108, 2) := by decide +kernel
theorem dX1_foresee_21 : decode cX1_foresee 21 = .ok (.invokespecial 73, 3) := by decide +kernel
theorem dX1_foresee_24 : decode cX1_foresee 24 = .ok (.athrow, 1) := by decide +kernel
theorem dX1_foresee_25 : decode cX1_foresee 25 = .ok (.aload_n 0, 1) := by decide +kernel
theorem dX1_foresee_26 : decode cX1_foresee 26 = .ok (.getfield 16, 3) := by decide +kernel
theorem dX1_foresee_29 : decode cX1_foresee 29 = .ok (.aload_n 0, 1) := by decide +kernel
theorem dX1_foresee_30 : decode cX1_foresee 30 = .ok (.getfield 10, 3) := by decide +kernel
theorem dX1_foresee_33 : decode cX1_foresee 33 = .ok (.invokevirtual 110, 3) := by decide +kernel
theorem dX1_foresee_36 : decode cX1_foresee 36 = .ok (.aload_n 0, 1) := by decide +kernel
theorem dX1_foresee_37 : decode cX1_foresee 37 = .ok (.getfield 16, 3) := by decide +kernel
theorem dX1_foresee_40 : decode cX1_foresee 40 = .ok (.invokevirtual 114, 3) := by decide +kernel
theorem dX1_foresee_43 : decode cX1_foresee 43 = .ok (.aload_n 0, 1) := by decide +kernel
theorem dX1_foresee_44 : decode cX1_foresee 44 = .ok (.getfield 16, 3) := by decide +kernel
theorem dX1_foresee_47 : decode cX1_foresee 47 = .ok (.iload_n 1, 1) := by decide +kernel
theorem dX1_foresee_48 : decode cX1_foresee 48 = .ok (.invokevirtual 105, 3) := by decide +kernel
theorem dX1_foresee_51 : decode cX1_foresee 51 = .ok (.pop, 1) := by decide +kernel
theorem dX1_foresee_52 : decode cX1_foresee 52 = .ok (.aload_n 0, 1) := by decide +kernel
theorem dX1_foresee_53 : decode cX1_foresee 53 = .ok (.getfield 16, 3) := by decide +kernel
theorem dX1_foresee_56 : decode cX1_foresee 56 = .ok (.iload_n 2, 1) := by decide +kernel
theorem dX1_foresee_57 : decode cX1_foresee 57 = .ok (.invokevirtual 79, 3) := by decide +kernel
theorem dX1_foresee_60 : decode cX1_foresee 60 = .ok (.ireturn, 1) := by decide +kernel
set_option maxRecDepth 20000 in
theorem ggX1_would_X1_checkedNumber : GoodIn wsX1_would wsX1_checkedNumber := goodIn_ca (goodIn_r _ [5, 6, 7] (by decide +kernel) (by decide +kernel)) (goodIn_sub (fun _ h => List.mem_cons_of_mem _ (List.mem_append_left _ (List.mem_append_left _ (List.mem_append_right _ h)))) (by decide +kernel))
set_option maxRecDepth 20000 in
theorem gX1_would_X1_checkedNumber : GoodIn wsX1_would (va_wsS RX1 19 yX1_checkedNumber wsX1_checkedNumber) := goodIn_app (goodIn_of _ (by decide +kernel)) ggX1_would_X1_checkedNumber
set_option maxRecDepth 20000 in
theorem ggX1_would_X1_checkBuilding : GoodIn wsX1_would wsX1_checkBuilding := goodIn_ca (goodIn_r _ [10, 11, 12] (by decide +kernel) (by decide +kernel)) (goodIn_sub (fun _ h => List.mem_cons_of_mem _ (List.mem_append_left _ (List.mem_append_right _ h))) (by decide +kernel))
set_option maxRecDepth 20000 in
theorem gX1_would_X1_checkBuilding : GoodIn wsX1_would (va_wsS RX1 48 yX1_checkBuilding wsX1_checkBuilding) := goodIn_app (goodIn_of _ (by decide +kernel)) ggX1_would_X1_checkBuilding
set_option maxRecDepth 20000 in
theorem ggX1_would_X1_checkDrained : GoodIn wsX1_would wsX1_checkDrained := goodIn_ca (goodIn_r _ [16, 17, 18, 1, 111, 112, 113, 114, 115, 116, 117, 118, 119, 120, 121, 122, 123, 124, 125] (by decide +kernel) (by decide +kernel)) (goodIn_sub (fun _ h => List.mem_cons_of_mem _ (List.mem_append_right _ h)) (by decide +kernel))
set_option maxRecDepth 20000 in
theorem gX1_would_X1_checkDrained : GoodIn wsX1_would (wsV RX1 51 RX1 yX1_checkDrained wsX1_checkDrained) := goodIn_app (goodIn_of _ (by decide +kernel)) ggX1_would_X1_checkDrained
set_option maxRecDepth 20000 in
theorem ggX1_would_X1_duesWith : GoodIn wsX1_would wsX1_duesWith := goodIn_r _ [22, 23, 1, 24, 25, 26, 27, 28, 29, 30, 31, 32, 33, 34, 35, 36, 37, 38, 39, 40, 41, 42, 43, 44, 45, 46, 47, 48, 49, 50, 51, 52, 53, 54, 55, 4, 56, 57, 58, 59, 60, 61, 62, 63, 64, 65, 66, 67, 68, 69, 70, 71, 72, 73, 74, 75, 76, 77, 78, 79, 80, 81, 82, 83, 84, 85, 86, 87, 88, 89, 90, 91, 92, 93, 94, 95, 96, 97, 98, 99, 100, 101, 102, 103, 104, 105, 106, 107, 108, 109, 110, 111, 112, 113, 114, 115, 116, 117, 118, 119, 120, 121, 122, 123, 124, 125] (by decide +kernel) (by decide +kernel)
set_option maxRecDepth 20000 in
theorem gX1_would_X1_duesWith : GoodIn wsX1_would (wsV RX1 117 RX1 yX1_duesWith wsX1_duesWith) := goodIn_app (goodIn_of _ (by decide +kernel)) ggX1_would_X1_duesWith
set_option maxRecDepth 20000 in
theorem ggX1_would_X0_duesOfAll : GoodIn wsX1_would wsX0_duesOfAll := goodIn_r _ [107, 43, 108, 109, 27, 110, 113, 114, 115, 116, 117, 118, 119, 120, 121, 122, 123, 124, 125] (by decide +kernel) (by decide +kernel)
set_option maxRecDepth 20000 in
theorem gX1_would_X0_duesOfAll : GoodIn wsX1_would (wsV RX1 120 RX0 yX0_duesOfAll wsX0_duesOfAll) := goodIn_app (goodIn_of _ (by decide +kernel)) ggX1_would_X0_duesOfAll
theorem dX1_would_0 : decode cX1_would 0 = .ok (.iload_n 1, 1) := by decide +kernel
theorem dX1_would_1 : decode cX1_would 1 = .ok (.iload_n 2, 1) := by decide +kernel
theorem dX1_would_2 : decode cX1_would 2 = .ok (.invokestatic 19, 3) := by decide +kernel
theorem dX1_would_5 : decode cX1_would 5 = .ok (.istore 4, 2) := by decide +kernel
theorem dX1_would_7 : decode cX1_would 7 = .ok (.iload_n 3, 1) := by decide +kernel
theorem dX1_would_8 : decode cX1_would 8 = .ok (.invokestatic 48, 3) := by decide +kernel
theorem dX1_would_11 : decode cX1_would 11 = .ok (.aload_n 0, 1) := by decide +kernel
theorem dX1_would_12 : decode cX1_would 12 = .ok (.iload 4, 2) := by decide +kernel
theorem dX1_would_14 : decode cX1_would 14 = .ok (.invokevirtual 51, 3) := by decide +kernel
theorem dX1_would_17 : decode cX1_would 17 = .ok (.aload_n 0, 1) := by decide +kernel
theorem dX1_would_18 : decode cX1_would 18 = .ok (.iload 4, 2) := by decide +kernel
theorem dX1_would_20 : decode cX1_would 20 = .ok (.iload_n 3, 1) := by decide +kernel
theorem dX1_would_21 : decode cX1_would 21 = .ok (.invokevirtual 117, 3) := by decide +kernel
theorem dX1_would_24 : decode cX1_would 24 = .ok (.aload_n 0, 1) := by decide +kernel
theorem dX1_would_25 : decode cX1_would 25 = .ok (.getfield 10, 3) := by decide +kernel
theorem dX1_would_28 : decode cX1_would 28 = .ok (.invokevirtual 120, 3) := by decide +kernel
theorem dX1_would_31 : decode cX1_would 31 = .ok (.isub, 1) := by decide +kernel
theorem dX1_would_32 : decode cX1_would 32 = .ok (.ireturn, 1) := by decide +kernel
set_option maxRecDepth 20000 in
theorem ggX1_best_X1_checkBuilding : GoodIn wsX1_best wsX1_checkBuilding := goodIn_ca (goodIn_r _ [5, 6, 7] (by decide +kernel) (by decide +kernel)) (goodIn_sub (fun _ h => List.mem_cons_of_mem _ (List.mem_append_right _ h)) (by decide +kernel))
set_option maxRecDepth 20000 in
theorem gX1_best_X1_checkBuilding : GoodIn wsX1_best (va_wsS RX1 48 yX1_checkBuilding wsX1_checkBuilding) := goodIn_app (goodIn_of _ (by decide +kernel)) ggX1_best_X1_checkBuilding
set_option maxRecDepth 20000 in
theorem ggX1_best_X1_duesWith : GoodIn wsX1_best wsX1_duesWith := goodIn_r _ [11, 12, 1, 13, 14, 15, 16, 17, 18, 19, 20, 21, 22, 23, 24, 25, 26, 27, 28, 29, 30, 31, 32, 33, 34, 35, 36, 37, 38, 39, 40, 41, 42, 43, 44, 4, 45, 46, 47, 48, 49, 50, 51, 52, 53, 54, 55, 56, 57, 58, 59, 60, 61, 62, 63, 64, 65, 66, 67, 68, 69, 70, 71, 72, 73, 74, 75, 76, 77, 78, 79, 80, 81, 82, 83, 84, 85, 86, 87, 88, 89, 90, 91, 92, 93, 94, 95, 96, 97, 98, 99, 100, 101, 102, 103, 104, 105, 106, 107, 108, 109, 110, 111, 112, 113, 114] (by decide +kernel) (by decide +kernel)
set_option maxRecDepth 20000 in
theorem gX1_best_X1_duesWith : GoodIn wsX1_best (wsV RX1 117 RX1 yX1_duesWith wsX1_duesWith) := goodIn_app (goodIn_of _ (by decide +kernel)) ggX1_best_X1_duesWith
theorem dX1_best_0 : decode cX1_best 0 = .ok (.iload_n 1, 1) := by decide +kernel
theorem dX1_best_1 : decode cX1_best 1 = .ok (.invokestatic 48, 3) := by decide +kernel
theorem dX1_best_4 : decode cX1_best 4 = .ok (.iconst (-1), 1) := by decide +kernel
theorem dX1_best_5 : decode cX1_best 5 = .ok (.istore_n 2, 1) := by decide +kernel
theorem dX1_best_6 : decode cX1_best 6 = .ok (.iconst 0, 1) := by decide +kernel
theorem dX1_best_7 : decode cX1_best 7 = .ok (.istore_n 3, 1) := by decide +kernel
theorem dX1_best_8 : decode cX1_best 8 = .ok (.iconst 0, 1) := by decide +kernel
theorem dX1_best_9 : decode cX1_best 9 = .ok (.istore 4, 2) := by decide +kernel
theorem dX1_best_11 : decode cX1_best 11 = .ok (.iload 4, 2) := by decide +kernel
theorem dX1_best_13 : decode cX1_best 13 = .ok (.bipush 64, 2) := by decide +kernel
theorem dX1_best_15 : decode cX1_best 15 = .ok (.if_icmp .ge 48, 3) := by decide +kernel
theorem dX1_best_18 : decode cX1_best 18 = .ok (.aload_n 0, 1) := by decide +kernel
theorem dX1_best_19 : decode cX1_best 19 = .ok (.getfield 10, 3) := by decide +kernel
theorem dX1_best_22 : decode cX1_best 22 = .ok (.getfield 23, 3) := by decide +kernel
theorem dX1_best_25 : decode cX1_best 25 = .ok (.iload 4, 2) := by decide +kernel
theorem dX1_best_27 : decode cX1_best 27 = .ok (.iaload, 1) := by decide +kernel
theorem dX1_best_28 : decode cX1_best 28 = .ok (.iconst 2, 1) := by decide +kernel
theorem dX1_best_29 : decode cX1_best 29 = .ok (.if_icmp .ne 28, 3) := by decide +kernel
theorem dX1_best_32 : decode cX1_best 32 = .ok (.aload_n 0, 1) := by decide +kernel
theorem dX1_best_33 : decode cX1_best 33 = .ok (.iload 4, 2) := by decide +kernel
theorem dX1_best_35 : decode cX1_best 35 = .ok (.iload_n 1, 1) := by decide +kernel
theorem dX1_best_36 : decode cX1_best 36 = .ok (.invokevirtual 117, 3) := by decide +kernel
theorem dX1_best_39 : decode cX1_best 39 = .ok (.istore 5, 2) := by decide +kernel
theorem dX1_best_41 : decode cX1_best 41 = .ok (.iload_n 2, 1) := by decide +kernel
theorem dX1_best_42 : decode cX1_best 42 = .ok (.ifCond .lt 9, 3) := by decide +kernel
theorem dX1_best_45 : decode cX1_best 45 = .ok (.iload 5, 2) := by decide +kernel
theorem dX1_best_47 : decode cX1_best 47 = .ok (.iload_n 3, 1) := by decide +kernel
theorem dX1_best_48 : decode cX1_best 48 = .ok (.if_icmp .le 9, 3) := by decide +kernel
theorem dX1_best_51 : decode cX1_best 51 = .ok (.iload 4, 2) := by decide +kernel
theorem dX1_best_53 : decode cX1_best 53 = .ok (.istore_n 2, 1) := by decide +kernel
theorem dX1_best_54 : decode cX1_best 54 = .ok (.iload 5, 2) := by decide +kernel
theorem dX1_best_56 : decode cX1_best 56 = .ok (.istore_n 3, 1) := by decide +kernel
theorem dX1_best_57 : decode cX1_best 57 = .ok (.iinc 4 1, 3) := by decide +kernel
theorem dX1_best_60 : decode cX1_best 60 = .ok (.goto (-49), 3) := by decide +kernel
theorem dX1_best_63 : decode cX1_best 63 = .ok (.iload_n 2, 1) := by decide +kernel
theorem dX1_best_64 : decode cX1_best 64 = .ok (.ireturn, 1) := by decide +kernel
set_option maxRecDepth 20000 in
theorem ggX1_mean_X0_lotsOfKind : GoodIn wsX1_mean wsX0_lotsOfKind := goodIn_r _ [6, 7, 18, 19, 20, 21, 22, 23, 24, 25, 26, 27, 28, 29, 30] (by decide +kernel) (by decide +kernel)
set_option maxRecDepth 20000 in
theorem gX1_mean_X0_lotsOfKind : GoodIn wsX1_mean (wsV RX1 124 RX0 yX0_lotsOfKind wsX0_lotsOfKind) := goodIn_app (goodIn_of _ (by decide +kernel)) ggX1_mean_X0_lotsOfKind
set_option maxRecDepth 20000 in
theorem ggX1_mean_X0_complaintsOfAll : GoodIn wsX1_mean wsX0_complaintsOfAll := goodIn_r _ [11, 12, 13, 14, 5, 15, 18, 19, 20, 21, 22, 23, 24, 25, 26, 27, 28, 29, 30] (by decide +kernel) (by decide +kernel)
set_option maxRecDepth 20000 in
theorem gX1_mean_X0_complaintsOfAll : GoodIn wsX1_mean (wsV RX1 127 RX0 yX0_complaintsOfAll wsX0_complaintsOfAll) := goodIn_app (goodIn_of _ (by decide +kernel)) ggX1_mean_X0_complaintsOfAll
theorem dX1_mean_0 : decode cX1_mean 0 = .ok (.aload_n 0, 1) := by decide +kernel
theorem dX1_mean_1 : decode cX1_mean 1 = .ok (.getfield 10, 3) := by decide +kernel
theorem dX1_mean_4 : decode cX1_mean 4 = .ok (.iconst 3, 1) := by decide +kernel
theorem dX1_mean_5 : decode cX1_mean 5 = .ok (.invokevirtual 124, 3) := by decide +kernel
theorem dX1_mean_8 : decode cX1_mean 8 = .ok (.istore_n 1, 1) := by decide +kernel
theorem dX1_mean_9 : decode cX1_mean 9 = .ok (.iload_n 1, 1) := by decide +kernel
theorem dX1_mean_10 : decode cX1_mean 10 = .ok (.ifCond .ne 5, 3) := by decide +kernel
theorem dX1_mean_13 : decode cX1_mean 13 = .ok (.dconst 0, 1) := by decide +kernel
theorem dX1_mean_14 : decode cX1_mean 14 = .ok (.dreturn, 1) := by decide +kernel
theorem dX1_mean_15 : decode cX1_mean 15 = .ok (.aload_n 0, 1) := by decide +kernel
theorem dX1_mean_16 : decode cX1_mean 16 = .ok (.getfield 10, 3) := by decide +kernel
theorem dX1_mean_19 : decode cX1_mean 19 = .ok (.invokevirtual 127, 3) := by decide +kernel
theorem dX1_mean_22 : decode cX1_mean 22 = .ok (.i2d, 1) := by decide +kernel
theorem dX1_mean_23 : decode cX1_mean 23 = .ok (.iload_n 1, 1) := by decide +kernel
theorem dX1_mean_24 : decode cX1_mean 24 = .ok (.i2d, 1) := by decide +kernel
theorem dX1_mean_25 : decode cX1_mean 25 = .ok (.ddiv, 1) := by decide +kernel
theorem dX1_mean_26 : decode cX1_mean 26 = .ok (.dreturn, 1) := by decide +kernel
set_option maxRecDepth 20000 in
theorem ggX1_digest_X0_total : GoodIn wsX1_digest wsX0_total := goodIn_r _ [8, 9, 10, 11, 12, 13, 14, 7, 15, 16, 17, 18, 19, 20, 21, 22, 23, 24, 25, 26, 27, 28, 29, 30, 31, 32, 33, 34, 62, 63, 64, 65, 66, 67, 68, 69, 70, 71, 72, 73, 74] (by decide +kernel) (by decide +kernel)
set_option maxRecDepth 20000 in
theorem gX1_digest_X0_total : GoodIn wsX1_digest (wsV RX1 79 RX0 yX0_total wsX0_total) := goodIn_app (goodIn_of _ (by decide +kernel)) ggX1_digest_X0_total
set_option maxRecDepth 20000 in
theorem ggX1_digest_X0_factOf : GoodIn wsX1_digest wsX0_factOf := goodIn_r _ [38, 34, 16, 21, 29, 39, 40, 41, 7, 42, 43, 44, 45, 46, 47, 48, 49, 50, 51, 52, 53, 54, 55, 56, 57, 58, 59, 62, 63, 64, 65, 66, 67, 68, 69, 70, 71, 72, 73, 74] (by decide +kernel) (by decide +kernel)
set_option maxRecDepth 20000 in
theorem gX1_digest_X0_factOf : GoodIn wsX1_digest (wsV RX1 74 RX0 yX0_factOf wsX0_factOf) := goodIn_app (goodIn_of _ (by decide +kernel)) ggX1_digest_X0_factOf
theorem dX1_digest_0 : decode cX1_digest 0 = .ok (.ldc2_w 130, 3) := by decide +kernel
theorem dX1_digest_3 : decode cX1_digest 3 = .ok (.lstore_n 1, 1) := by decide +kernel
theorem dX1_digest_4 : decode cX1_digest 4 = .ok (.iconst 0, 1) := by decide +kernel
theorem dX1_digest_5 : decode cX1_digest 5 = .ok (.istore_n 3, 1) := by decide +kernel
theorem dX1_digest_6 : decode cX1_digest 6 = .ok (.iload_n 3, 1) := by decide +kernel
theorem dX1_digest_7 : decode cX1_digest 7 = .ok (.bipush 12, 2) := by decide +kernel
theorem dX1_digest_9 : decode cX1_digest 9 = .ok (.if_icmp .gt 25, 3) := by decide +kernel
theorem dX1_digest_12 : decode cX1_digest 12 = .ok (.lload_n 1, 1) := by decide +kernel
theorem dX1_digest_13 : decode cX1_digest 13 = .ok (.ldc2_w 132, 3) := by decide +kernel
theorem dX1_digest_16 : decode cX1_digest 16 = .ok (.lmul, 1) := by decide +kernel
theorem dX1_digest_17 : decode cX1_digest 17 = .ok (.aload_n 0, 1) := by decide +kernel
theorem dX1_digest_18 : decode cX1_digest 18 = .ok (.getfield 10, 3) := by decide +kernel
theorem dX1_digest_21 : decode cX1_digest 21 = .ok (.iload_n 3, 1) := by decide +kernel
theorem dX1_digest_22 : decode cX1_digest 22 = .ok (.invokevirtual 79, 3) := by decide +kernel
theorem dX1_digest_25 : decode cX1_digest 25 = .ok (.i2l, 1) := by decide +kernel
theorem dX1_digest_26 : decode cX1_digest 26 = .ok (.ladd, 1) := by decide +kernel
theorem dX1_digest_27 : decode cX1_digest 27 = .ok (.lstore_n 1, 1) := by decide +kernel
theorem dX1_digest_28 : decode cX1_digest 28 = .ok (.iinc 3 1, 3) := by decide +kernel
theorem dX1_digest_31 : decode cX1_digest 31 = .ok (.goto (-25), 3) := by decide +kernel
theorem dX1_digest_34 : decode cX1_digest 34 = .ok (.iconst 0, 1) := by decide +kernel
theorem dX1_digest_35 : decode cX1_digest 35 = .ok (.istore_n 3, 1) := by decide +kernel
theorem dX1_digest_36 : decode cX1_digest 36 = .ok (.iload_n 3, 1) := by decide +kernel
theorem dX1_digest_37 : decode cX1_digest 37 = .ok (.bipush 64, 2) := by decide +kernel
theorem dX1_digest_39 : decode cX1_digest 39 = .ok (.if_icmp .ge 42, 3) := by decide +kernel
theorem dX1_digest_42 : decode cX1_digest 42 = .ok (.iconst 0, 1) := by decide +kernel
theorem dX1_digest_43 : decode cX1_digest 43 = .ok (.istore 4, 2) := by decide +kernel
theorem dX1_digest_45 : decode cX1_digest 45 = .ok (.iload 4, 2) := by decide +kernel
theorem dX1_digest_47 : decode cX1_digest 47 = .ok (.iconst 5, 1) := by decide +kernel
theorem dX1_digest_48 : decode cX1_digest 48 = .ok (.if_icmp .gt 27, 3) := by decide +kernel
theorem dX1_digest_51 : decode cX1_digest 51 = .ok (.lload_n 1, 1) := by decide +kernel
theorem dX1_digest_52 : decode cX1_digest 52 = .ok (.ldc2_w 132, 3) := by decide +kernel
theorem dX1_digest_55 : decode cX1_digest 55 = .ok (.lmul, 1) := by decide +kernel
theorem dX1_digest_56 : decode cX1_digest 56 = .ok (.aload_n 0, 1) := by decide +kernel
theorem dX1_digest_57 : decode cX1_digest 57 = .ok (.getfield 10, 3) := by decide +kernel
theorem dX1_digest_60 : decode cX1_digest 60 = .ok (.iload_n 3, 1) := by decide +kernel
theorem dX1_digest_61 : decode cX1_digest 61 = .ok (.iload 4, 2) := by decide +kernel
theorem dX1_digest_63 : decode cX1_digest 63 = .ok (.invokevirtual 74, 3) := by decide +kernel
theorem dX1_digest_66 : decode cX1_digest 66 = .ok (.i2l, 1) := by decide +kernel
theorem dX1_digest_67 : decode cX1_digest 67 = .ok (.ladd, 1) := by decide +kernel
theorem dX1_digest_68 : decode cX1_digest 68 = .ok (.lstore_n 1, 1) := by decide +kernel
theorem dX1_digest_69 : decode cX1_digest 69 = .ok (.iinc 4 1, 3) := by decide +kernel
theorem dX1_digest_72 : decode cX1_digest 72 = .ok (.goto (-27), 3) := by decide +kernel
theorem dX1_digest_75 : decode cX1_digest 75 = .ok (.iinc 3 1, 3) := by decide +kernel
theorem dX1_digest_78 : decode cX1_digest 78 = .ok (.goto (-42), 3) := by decide +kernel
theorem dX1_digest_81 : decode cX1_digest 81 = .ok (.lload_n 1, 1) := by decide +kernel
theorem dX1_digest_82 : decode cX1_digest 82 = .ok (.lreturn, 1) := by decide +kernel
set_option maxRecDepth 20000 in
theorem ggX1_duesWith_X0_become : GoodIn wsX1_duesWith wsX0_become := goodIn_r _ [7, 8, 9, 10, 11, 93, 94, 95, 96, 97, 98, 99, 100, 101, 102, 103, 104, 105] (by decide +kernel) (by decide +kernel)
set_option maxRecDepth 20000 in
theorem gX1_duesWith_X0_become : GoodIn wsX1_duesWith (wsV RX1 110 RX0 yX0_become wsX0_become) := goodIn_app (goodIn_of _ (by decide +kernel)) ggX1_duesWith_X0_become
set_option maxRecDepth 20000 in
theorem ggX1_duesWith_X0_change : GoodIn wsX1_duesWith wsX0_change := goodIn_r _ [15, 11, 16, 17, 18, 6, 19, 20, 21, 22, 23, 24, 25, 26, 27, 28, 29, 30, 31, 32, 33, 34, 35, 36, 37, 38, 39, 40, 41, 42, 43, 44, 45, 46, 47, 48, 49, 50, 51, 52, 53, 54, 55, 56, 57, 58, 59, 60, 61, 62, 63, 64, 65, 66, 67, 68, 69, 70, 71, 72, 73, 74, 75, 76, 77, 78, 79, 80, 81, 82, 83, 93, 94, 95, 96, 97, 98, 99, 100, 101, 102, 103, 104, 105] (by decide +kernel) (by decide +kernel)
set_option maxRecDepth 20000 in
theorem gX1_duesWith_X0_change : GoodIn wsX1_duesWith (wsV RX1 65 RX0 yX0_change wsX0_change) := goodIn_app (goodIn_of _ (by decide +kernel)) ggX1_duesWith_X0_change
set_option maxRecDepth 20000 in
theorem ggX1_duesWith_X0_duesOfAll : GoodIn wsX1_duesWith wsX0_duesOfAll := goodIn_r _ [87, 22, 88, 89, 6, 90, 93, 94, 95, 96, 97, 98, 99, 100, 101, 102, 103, 104, 105] (by decide +kernel) (by decide +kernel)
set_option maxRecDepth 20000 in
theorem gX1_duesWith_X0_duesOfAll : GoodIn wsX1_duesWith (wsV RX1 120 RX0 yX0_duesOfAll wsX0_duesOfAll) := goodIn_app (goodIn_of _ (by decide +kernel)) ggX1_duesWith_X0_duesOfAll
theorem dX1_duesWith_0 : decode cX1_duesWith 0 = .ok (.aload_n 0, 1) := by decide +kernel
theorem dX1_duesWith_1 : decode cX1_duesWith 1 = .ok (.getfield 16, 3) := by decide +kernel
theorem dX1_duesWith_4 : decode cX1_duesWith 4 = .ok (.aload_n 0, 1) := by decide +kernel
theorem dX1_duesWith_5 : decode cX1_duesWith 5 = .ok (.getfield 10, 3) := by decide +kernel
theorem dX1_duesWith_8 : decode cX1_duesWith 8 = .ok (.invokevirtual 110, 3) := by decide +kernel
theorem dX1_duesWith_11 : decode cX1_duesWith 11 = .ok (.aload_n 0, 1) := by decide +kernel
theorem dX1_duesWith_12 : decode cX1_duesWith 12 = .ok (.getfield 16, 3) := by decide +kernel
theorem dX1_duesWith_15 : decode cX1_duesWith 15 = .ok (.iload_n 1, 1) := by decide +kernel
theorem dX1_duesWith_16 : decode cX1_duesWith 16 = .ok (.iload_n 2, 1) := by decide +kernel
theorem dX1_duesWith_17 : decode cX1_duesWith 17 = .ok (.invokevirtual 65, 3) := by decide +kernel
theorem dX1_duesWith_20 : decode cX1_duesWith 20 = .ok (.aload_n 0, 1) := by decide +kernel
theorem dX1_duesWith_21 : decode cX1_duesWith 21 = .ok (.getfield 16, 3) := by decide +kernel
theorem dX1_duesWith_24 : decode cX1_duesWith 24 = .ok (.invokevirtual 120, 3) := by decide +kernel
theorem dX1_duesWith_27 : decode cX1_duesWith 27 = .ok (.ireturn, 1) := by decide +kernel
theorem dX1_checkedNumber_0 : decode cX1_checkedNumber 0 = .ok (.iload_n 0, 1) := by decide +kernel
theorem dX1_checkedNumber_1 : decode cX1_checkedNumber 1 = .ok (.ifCond .lt 19, 3) := by decide +kernel
theorem dX1_checkedNumber_4 : decode cX1_checkedNumber 4 = .ok (.iload_n 0, 1) := by decide +kernel
theorem dX1_checkedNumber_5 : decode cX1_checkedNumber 5 = .ok (.bipush 8, 2) := by decide +kernel
theorem dX1_checkedNumber_7 : decode cX1_checkedNumber 7 = .ok (.if_icmp .ge 13, 3) := by decide +kernel
theorem dX1_checkedNumber_10 : decode cX1_checkedNumber 10 = .ok (.iload_n 1, 1) := by decide +kernel
theorem dX1_checkedNumber_11 : decode cX1_checkedNumber 11 = .ok (.ifCond .lt 9, 3) := by decide +kernel
theorem dX1_checkedNumber_14 : decode cX1_checkedNumber 14 = .ok (.iload_n 1, 1) := by decide +kernel
theorem dX1_checkedNumber_15 : decode cX1_checkedNumber 15 = .ok (.bipush 8, 2) := by decide +kernel
theorem dX1_checkedNumber_17 : decode cX1_checkedNumber 17 = .ok (.if_icmp .lt 13, 3) := by decide +kernel
theorem dX1_checkedNumber_20 : decode cX1_checkedNumber 20 = .ok (.new 69, 3) := by decide +kernel
theorem dX1_checkedNumber_23 : decode cX1_checkedNumber 23 = .ok (.dup, 1) := by decide +kernel
theorem dX1_checkedNumber_24 : decode cX1_checkedNumber 24 = .ok (.ldc 134, 2) := by decide +kernel
theorem dX1_checkedNumber_26 : decode cX1_checkedNumber 26 = .ok (.invokespecial 73, 3) := by decide +kernel
theorem dX1_checkedNumber_29 : decode cX1_checkedNumber 29 = .ok (.athrow, 1) := by decide +kernel
theorem dX1_checkedNumber_30 : decode cX1_checkedNumber 30 = .ok (.bipush 8, 2) := by decide +kernel
theorem dX1_checkedNumber_32 : decode cX1_checkedNumber 32 = .ok (.iload_n 1, 1) := by decide +kernel
theorem dX1_checkedNumber_33 : decode cX1_checkedNumber 33 = .ok (.imul, 1) := by decide +kernel
theorem dX1_checkedNumber_34 : decode cX1_checkedNumber 34 = .ok (.iload_n 0, 1) := by decide +kernel
theorem dX1_checkedNumber_35 : decode cX1_checkedNumber 35 = .ok (.iadd, 1) := by decide +kernel
theorem dX1_checkedNumber_36 : decode cX1_checkedNumber 36 = .ok (.ireturn, 1) := by decide +kernel
set_option maxRecDepth 20000 in
theorem ggX1_checkNumber_X1_isLot : GoodIn wsX1_checkNumber wsX1_isLot := goodIn_r _ [6] (by decide +kernel) (by decide +kernel)
set_option maxRecDepth 20000 in
theorem gX1_checkNumber_X1_isLot : GoodIn wsX1_checkNumber (va_wsS RX1 136 yX1_isLot wsX1_isLot) := goodIn_app (goodIn_of _ (by decide +kernel)) ggX1_checkNumber_X1_isLot
theorem dX1_checkNumber_0 : decode cX1_checkNumber 0 = .ok (.iload_n 0, 1) := by decide +kernel
theorem dX1_checkNumber_1 : decode cX1_checkNumber 1 = .ok (.invokestatic 136, 3) := by decide +kernel
theorem dX1_checkNumber_4 : decode cX1_checkNumber 4 = .ok (.ifCond .ne 13, 3) := by decide +kernel
theorem dX1_checkNumber_7 : decode cX1_checkNumber 7 = .ok (.new 69, 3) := by decide +kernel
theorem dX1_checkNumber_10 : decode cX1_checkNumber 10 = .ok (.dup, 1) := by decide +kernel
theorem dX1_checkNumber_11 : decode cX1_checkNumber 11 = .ok (.ldc 139, 2) := by decide +kernel
theorem dX1_checkNumber_13 : decode cX1_checkNumber 13 = .ok (.invokespecial 73, 3) := by decide +kernel
theorem dX1_checkNumber_16 : decode cX1_checkNumber 16 = .ok (.athrow, 1) := by decide +kernel
theorem dX1_checkNumber_17 : decode cX1_checkNumber 17 = .ok (.return_, 1) := by decide +kernel
theorem dX1_checkBuilding_0 : decode cX1_checkBuilding 0 = .ok (.iload_n 0, 1) := by decide +kernel
theorem dX1_checkBuilding_1 : decode cX1_checkBuilding 1 = .ok (.iconst 3, 1) := by decide +kernel
theorem dX1_checkBuilding_2 : decode cX1_checkBuilding 2 = .ok (.if_icmp .lt 8, 3) := by decide +kernel
theorem dX1_checkBuilding_5 : decode cX1_checkBuilding 5 = .ok (.iload_n 0, 1) := by decide +kernel
theorem dX1_checkBuilding_6 : decode cX1_checkBuilding 6 = .ok (.iconst 5, 1) := by decide +kernel
theorem dX1_checkBuilding_7 : decode cX1_checkBuilding 7 = .ok (.if_icmp .le 13, 3) := by decide +kernel
theorem dX1_checkBuilding_10 : decode cX1_checkBuilding 10 = .ok (.new 141, 3) := by decide +kernel
theorem dX1_checkBuilding_13 : decode cX1_checkBuilding 13 = .ok (.dup, 1) := by decide +kernel
theorem dX1_checkBuilding_14 : decode cX1_checkBuilding 14 = .ok (.ldc 143, 2) := by decide +kernel
theorem dX1_checkBuilding_16 : decode cX1_checkBuilding 16 = .ok (.invokespecial 145, 3) := by decide +kernel
theorem dX1_checkBuilding_19 : decode cX1_checkBuilding 19 = .ok (.athrow, 1) := by decide +kernel
theorem dX1_checkBuilding_20 : decode cX1_checkBuilding 20 = .ok (.return_, 1) := by decide +kernel
theorem dX1_checkMonths_0 : decode cX1_checkMonths 0 = .ok (.iload_n 0, 1) := by decide +kernel
theorem dX1_checkMonths_1 : decode cX1_checkMonths 1 = .ok (.iconst 1, 1) := by decide +kernel
theorem dX1_checkMonths_2 : decode cX1_checkMonths 2 = .ok (.if_icmp .lt 9, 3) := by decide +kernel
theorem dX1_checkMonths_5 : decode cX1_checkMonths 5 = .ok (.iload_n 0, 1) := by decide +kernel
theorem dX1_checkMonths_6 : decode cX1_checkMonths 6 = .ok (.bipush 60, 2) := by decide +kernel
theorem dX1_checkMonths_8 : decode cX1_checkMonths 8 = .ok (.if_icmp .le 13, 3) := by decide +kernel
theorem dX1_checkMonths_11 : decode cX1_checkMonths 11 = .ok (.new 141, 3) := by decide +kernel
theorem dX1_checkMonths_14 : decode cX1_checkMonths 14 = .ok (.dup, 1) := by decide +kernel
theorem dX1_checkMonths_15 : decode cX1_checkMonths 15 = .ok (.ldc 146, 2) := by decide +kernel
theorem dX1_checkMonths_17 : decode cX1_checkMonths 17 = .ok (.invokespecial 145, 3) := by decide +kernel
theorem dX1_checkMonths_20 : decode cX1_checkMonths 20 = .ok (.athrow, 1) := by decide +kernel
theorem dX1_checkMonths_21 : decode cX1_checkMonths 21 = .ok (.return_, 1) := by decide +kernel
theorem dX1_checkDrained_0 : decode cX1_checkDrained 0 = .ok (.aload_n 0, 1) := by decide +kernel
theorem dX1_checkDrained_1 : decode cX1_checkDrained 1 = .ok (.getfield 10, 3) := by decide +kernel
theorem dX1_checkDrained_4 : decode cX1_checkDrained 4 = .ok (.getfield 23, 3) := by decide +kernel
theorem dX1_checkDrained_7 : decode cX1_checkDrained 7 = .ok (.iload_n 1, 1) := by decide +kernel
theorem dX1_checkDrained_8 : decode cX1_checkDrained 8 = .ok (.iaload, 1) := by decide +kernel
theorem dX1_checkDrained_9 : decode cX1_checkDrained 9 = .ok (.iconst 2, 1) := by decide +kernel
theorem dX1_checkDrained_10 : decode cX1_checkDrained 10 = .ok (.if_icmp .eq 13, 3) := by decide +kernel
theorem dX1_checkDrained_13 : decode cX1_checkDrained 13 = .ok (.new 27, 3) := by decide +kernel
theorem dX1_checkDrained_16 : decode cX1_checkDrained 16 = .ok (.dup, 1) := by decide +kernel
theorem dX1_checkDrained_17 : decode cX1_checkDrained 17 = .ok (.ldc 148, 2) := by decide +kernel
theorem dX1_checkDrained_19 : decode cX1_checkDrained 19 = .ok (.invokespecial 31, 3) := by decide +kernel
theorem dX1_checkDrained_22 : decode cX1_checkDrained 22 = .ok (.athrow, 1) := by decide +kernel
theorem dX1_checkDrained_23 : decode cX1_checkDrained 23 = .ok (.return_, 1) := by decide +kernel
theorem dX1_checkCoins_0 : decode cX1_checkCoins 0 = .ok (.aload_n 0, 1) := by decide +kernel
theorem dX1_checkCoins_1 : decode cX1_checkCoins 1 = .ok (.getfield 10, 3) := by decide +kernel
theorem dX1_checkCoins_4 : decode cX1_checkCoins 4 = .ok (.getfield 42, 3) := by decide +kernel
theorem dX1_checkCoins_7 : decode cX1_checkCoins 7 = .ok (.iload_n 1, 1) := by decide +kernel
theorem dX1_checkCoins_8 : decode cX1_checkCoins 8 = .ok (.if_icmp .ge 13, 3) := by decide +kernel
theorem dX1_checkCoins_11 : decode cX1_checkCoins 11 = .ok (.new 27, 3) := by decide +kernel
theorem dX1_checkCoins_14 : decode cX1_checkCoins 14 = .ok (.dup, 1) := by decide +kernel
theorem dX1_checkCoins_15 : decode cX1_checkCoins 15 = .ok (.ldc 150, 2) := by decide +kernel
theorem dX1_checkCoins_17 : decode cX1_checkCoins 17 = .ok (.invokespecial 31, 3) := by decide +kernel
theorem dX1_checkCoins_20 : decode cX1_checkCoins 20 = .ok (.athrow, 1) := by decide +kernel
theorem dX1_checkCoins_21 : decode cX1_checkCoins 21 = .ok (.return_, 1) := by decide +kernel
theorem dX1_isLot_0 : decode cX1_isLot 0 = .ok (.iload_n 0, 1) := by decide +kernel
theorem dX1_isLot_1 : decode cX1_isLot 1 = .ok (.ifCond .lt 13, 3) := by decide +kernel
theorem dX1_isLot_4 : decode cX1_isLot 4 = .ok (.iload_n 0, 1) := by decide +kernel
theorem dX1_isLot_5 : decode cX1_isLot 5 = .ok (.bipush 64, 2) := by decide +kernel
theorem dX1_isLot_7 : decode cX1_isLot 7 = .ok (.if_icmp .ge 7, 3) := by decide +kernel
theorem dX1_isLot_10 : decode cX1_isLot 10 = .ok (.iconst 1, 1) := by decide +kernel
theorem dX1_isLot_11 : decode cX1_isLot 11 = .ok (.goto 4, 3) := by decide +kernel
theorem dX1_isLot_14 : decode cX1_isLot 14 = .ok (.iconst 0, 1) := by decide +kernel
theorem dX1_isLot_15 : decode cX1_isLot 15 = .ok (.ireturn, 1) := by decide +kernel
theorem dX1_costOf_0 : decode cX1_costOf 0 = .ok (.iload_n 0, 1) := by decide +kernel
theorem dX1_costOf_1 : decode cX1_costOf 1 = .ok (.lookupswitch 32 #[(3, 27), (4, 29)], 27) := by decide +kernel
theorem dX1_costOf_28 : decode cX1_costOf 28 = .ok (.iconst 4, 1) := by decide +kernel
theorem dX1_costOf_29 : decode cX1_costOf 29 = .ok (.ireturn, 1) := by decide +kernel
theorem dX1_costOf_30 : decode cX1_costOf 30 = .ok (.bipush 6, 2) := by decide +kernel
theorem dX1_costOf_32 : decode cX1_costOf 32 = .ok (.ireturn, 1) := by decide +kernel
theorem dX1_costOf_33 : decode cX1_costOf 33 = .ok (.iconst 5, 1) := by decide +kernel
theorem dX1_costOf_34 : decode cX1_costOf 34 = .ok (.ireturn, 1) := by decide +kernel
theorem dX1_isLand_0 : decode cX1_isLand 0 = .ok (.iload_n 0, 1) := by decide +kernel
theorem dX1_isLand_1 : decode cX1_isLand 1 = .ok (.iconst 2, 1) := by decide +kernel
theorem dX1_isLand_2 : decode cX1_isLand 2 = .ok (.if_icmp .lt 13, 3) := by decide +kernel
theorem dX1_isLand_5 : decode cX1_isLand 5 = .ok (.iload_n 0, 1) := by decide +kernel
theorem dX1_isLand_6 : decode cX1_isLand 6 = .ok (.bipush 6, 2) := by decide +kernel
theorem dX1_isLand_8 : decode cX1_isLand 8 = .ok (.if_icmp .gt 7, 3) := by decide +kernel
theorem dX1_isLand_11 : decode cX1_isLand 11 = .ok (.iconst 1, 1) := by decide +kernel
theorem dX1_isLand_12 : decode cX1_isLand 12 = .ok (.goto 4, 3) := by decide +kernel
theorem dX1_isLand_15 : decode cX1_isLand 15 = .ok (.iconst 0, 1) := by decide +kernel
theorem dX1_isLand_16 : decode cX1_isLand 16 = .ok (.ireturn, 1) := by decide +kernel
theorem dX1_isWater_0 : decode cX1_isWater 0 = .ok (.iload_n 0, 1) := by decide +kernel
theorem dX1_isWater_1 : decode cX1_isWater 1 = .ok (.iconst 1, 1) := by decide +kernel
theorem dX1_isWater_2 : decode cX1_isWater 2 = .ok (.if_icmp .eq 9, 3) := by decide +kernel
theorem dX1_isWater_5 : decode cX1_isWater 5 = .ok (.iload_n 0, 1) := by decide +kernel
theorem dX1_isWater_6 : decode cX1_isWater 6 = .ok (.bipush 6, 2) := by decide +kernel
theorem dX1_isWater_8 : decode cX1_isWater 8 = .ok (.if_icmp .ne 7, 3) := by decide +kernel
theorem dX1_isWater_11 : decode cX1_isWater 11 = .ok (.iconst 1, 1) := by decide +kernel
theorem dX1_isWater_12 : decode cX1_isWater 12 = .ok (.goto 4, 3) := by decide +kernel
theorem dX1_isWater_15 : decode cX1_isWater 15 = .ok (.iconst 0, 1) := by decide +kernel
theorem dX1_isWater_16 : decode cX1_isWater 16 = .ok (.ireturn, 1) := by decide +kernel
theorem dX1_neighbour_0 : decode cX1_neighbour 0 = .ok (.iload_n 0, 1) := by decide +kernel
theorem dX1_neighbour_1 : decode cX1_neighbour 1 = .ok (.bipush 8, 2) := by decide +kernel
theorem dX1_neighbour_3 : decode cX1_neighbour 3 = .ok (.irem, 1) := by decide +kernel
theorem dX1_neighbour_4 : decode cX1_neighbour 4 = .ok (.istore_n 2, 1) := by decide +kernel
theorem dX1_neighbour_5 : decode cX1_neighbour 5 = .ok (.iload_n 0, 1) := by decide +kernel
theorem dX1_neighbour_6 : decode cX1_neighbour 6 = .ok (.bipush 8, 2) := by decide +kernel
theorem dX1_neighbour_8 : decode cX1_neighbour 8 = .ok (.idiv, 1) := by decide +kernel
theorem dX1_neighbour_9 : decode cX1_neighbour 9 = .ok (.istore_n 3, 1) := by decide +kernel
theorem dX1_neighbour_10 : decode cX1_neighbour 10 = .ok (.iload_n 1, 1) := by decide +kernel
theorem dX1_neighbour_11 : decode cX1_neighbour 11 = .ok (.tableswitch 64 0 2 #[25, 38, 50], 25) := by decide +kernel
theorem dX1_neighbour_36 : decode cX1_neighbour 36 = .ok (.iload_n 3, 1) := by decide +kernel
theorem dX1_neighbour_37 : decode cX1_neighbour 37 = .ok (.ifCond .le 10, 3) := by decide +kernel
theorem dX1_neighbour_40 : decode cX1_neighbour 40 = .ok (.iload_n 0, 1) := by decide +kernel
theorem dX1_neighbour_41 : decode cX1_neighbour 41 = .ok (.bipush 8, 2) := by decide +kernel
theorem dX1_neighbour_43 : decode cX1_neighbour 43 = .ok (.isub, 1) := by decide +kernel
theorem dX1_neighbour_44 : decode cX1_neighbour 44 = .ok (.goto 4, 3) := by decide +kernel
theorem dX1_neighbour_47 : decode cX1_neighbour 47 = .ok (.iconst (-1), 1) := by decide +kernel
theorem dX1_neighbour_48 : decode cX1_neighbour 48 = .ok (.ireturn, 1) := by decide +kernel
theorem dX1_neighbour_49 : decode cX1_neighbour 49 = .ok (.iload_n 2, 1) := by decide +kernel
theorem dX1_neighbour_50 : decode cX1_neighbour 50 = .ok (.ifCond .le 9, 3) := by decide +kernel
theorem dX1_neighbour_53 : decode cX1_neighbour 53 = .ok (.iload_n 0, 1) := by decide +kernel
theorem dX1_neighbour_54 : decode cX1_neighbour 54 = .ok (.iconst 1, 1) := by decide +kernel
theorem dX1_neighbour_55 : decode cX1_neighbour 55 = .ok (.isub, 1) := by decide +kernel
theorem dX1_neighbour_56 : decode cX1_neighbour 56 = .ok (.goto 4, 3) := by decide +kernel
theorem dX1_neighbour_59 : decode cX1_neighbour 59 = .ok (.iconst (-1), 1) := by decide +kernel
theorem dX1_neighbour_60 : decode cX1_neighbour 60 = .ok (.ireturn, 1) := by decide +kernel
theorem dX1_neighbour_61 : decode cX1_neighbour 61 = .ok (.iload_n 2, 1) := by decide +kernel
theorem dX1_neighbour_62 : decode cX1_neighbour 62 = .ok (.bipush 7, 2) := by decide +kernel
theorem dX1_neighbour_64 : decode cX1_neighbour 64 = .ok (.if_icmp .ge 9, 3) := by decide +kernel
theorem dX1_neighbour_67 : decode cX1_neighbour 67 = .ok (.iload_n 0, 1) := by decide +kernel
theorem dX1_neighbour_68 : decode cX1_neighbour 68 = .ok (.iconst 1, 1) := by decide +kernel
theorem dX1_neighbour_69 : decode cX1_neighbour 69 = .ok (.iadd, 1) := by decide +kernel
theorem dX1_neighbour_70 : decode cX1_neighbour 70 = .ok (.goto 4, 3) := by decide +kernel
theorem dX1_neighbour_73 : decode cX1_neighbour 73 = .ok (.iconst (-1), 1) := by decide +kernel
theorem dX1_neighbour_74 : decode cX1_neighbour 74 = .ok (.ireturn, 1) := by decide +kernel
theorem dX1_neighbour_75 : decode cX1_neighbour 75 = .ok (.iload_n 3, 1) := by decide +kernel
theorem dX1_neighbour_76 : decode cX1_neighbour 76 = .ok (.bipush 7, 2) := by decide +kernel
theorem dX1_neighbour_78 : decode cX1_neighbour 78 = .ok (.if_icmp .ge 10, 3) := by decide +kernel
theorem dX1_neighbour_81 : decode cX1_neighbour 81 = .ok (.iload_n 0, 1) := by decide +kernel
theorem dX1_neighbour_82 : decode cX1_neighbour 82 = .ok (.bipush 8, 2) := by decide +kernel
theorem dX1_neighbour_84 : decode cX1_neighbour 84 = .ok (.iadd, 1) := by decide +kernel
theorem dX1_neighbour_85 : decode cX1_neighbour 85 = .ok (.goto 4, 3) := by decide +kernel
theorem dX1_neighbour_88 : decode cX1_neighbour 88 = .ok (.iconst (-1), 1) := by decide +kernel
theorem dX1_neighbour_89 : decode cX1_neighbour 89 = .ok (.ireturn, 1) := by decide +kernel

set_option maxRecDepth 20000 in
theorem ggL_build_X2_init : GoodIn wsL_build wsX2_init := goodIn_r _ [7, 8, 9, 10, 11, 12, 13, 14, 243, 244, 245, 246] (by decide +kernel) (by decide +kernel)
set_option maxRecDepth 20000 in
theorem gL_build_X2_init : GoodIn wsL_build (wsX2_init) := ggL_build_X2_init
set_option maxRecDepth 20000 in
theorem ggL_build_L_cell : GoodIn wsL_build wsL_cell := goodIn_r _ [18, 19] (by decide +kernel) (by decide +kernel)
set_option maxRecDepth 20000 in
theorem gL_build_L_cell : GoodIn wsL_build (va_wsS RL 58 yL_cell wsL_cell) := goodIn_app (goodIn_of _ (by decide +kernel)) ggL_build_L_cell
set_option maxRecDepth 20000 in
theorem ggL_build_L_below : GoodIn wsL_build wsL_below := goodIn_r _ [22, 23] (by decide +kernel) (by decide +kernel)
set_option maxRecDepth 20000 in
theorem gL_build_L_below : GoodIn wsL_build (va_wsS RL 9 yL_below wsL_below) := goodIn_app (goodIn_of _ (by decide +kernel)) ggL_build_L_below
set_option maxRecDepth 20000 in
theorem ggL_build_L_act_h : GoodIn wsL_build [.codeWith yL_act cL_act 10 (some .boolean) [(185, 194, 197, 30), (277, 286, 289, 30), (387, 398, 401, 30), (506, 516, 519, 30), (622, 631, 634, 30)]] := goodIn_r _ [26] rfl (by decide +kernel)
set_option maxRecDepth 20000 in
theorem ggL_build_L_act_r1 : GoodIn wsL_build wsL_act_r1 := goodIn_r _ [27, 28, 29, 30, 20, 21, 17, 22, 23, 31, 32, 33, 34, 35, 36, 37, 38, 39, 40, 41, 42, 43, 44, 45] (by decide +kernel) (by decide +kernel)
set_option maxRecDepth 20000 in
theorem ggL_build_L_act_r2 : GoodIn wsL_build wsL_act_r2 := goodIn_r _ [46, 47, 48, 49, 50, 51, 52, 53, 54, 55, 56, 57, 58, 59, 60, 61, 62, 63, 64, 65, 66, 67, 68, 69] (by decide +kernel) (by decide +kernel)
set_option maxRecDepth 20000 in
theorem ggL_build_L_act_r3 : GoodIn wsL_build wsL_act_r3 := goodIn_r _ [70, 71, 72, 73, 74, 75, 76, 77, 78, 79, 80, 81, 82, 83, 84, 85, 86, 87, 88, 89, 90, 91, 92, 93] (by decide +kernel) (by decide +kernel)
set_option maxRecDepth 20000 in
theorem ggL_build_L_act_r4 : GoodIn wsL_build wsL_act_r4 := goodIn_r _ [94, 95, 96, 97, 98, 99, 100, 101, 102, 103, 104, 105, 106, 107, 108, 109, 110, 111, 112, 113, 114, 115, 116, 117] (by decide +kernel) (by decide +kernel)
set_option maxRecDepth 20000 in
theorem ggL_build_L_act_r5 : GoodIn wsL_build wsL_act_r5 := goodIn_r _ [118, 119, 120, 121, 122, 123, 124, 125, 126, 127, 128, 129, 130, 131, 132, 133, 134, 135, 136, 137, 138, 139, 140, 141] (by decide +kernel) (by decide +kernel)
set_option maxRecDepth 20000 in
theorem ggL_build_L_act_r6 : GoodIn wsL_build wsL_act_r6 := goodIn_r _ [142, 143, 144, 145, 146, 147, 148, 149, 150, 151, 152, 153, 154, 155, 156, 3, 157, 11, 12, 158, 159, 160, 161, 162] (by decide +kernel) (by decide +kernel)
set_option maxRecDepth 20000 in
theorem ggL_build_L_act_r7 : GoodIn wsL_build wsL_act_r7 := goodIn_r _ [163, 164, 165, 166, 167, 168, 13, 169, 170, 171, 172, 173, 174, 175, 176, 177] (by decide +kernel) (by decide +kernel)
set_option maxRecDepth 20000 in
theorem ggL_build_L_act_wsX20 : GoodIn wsL_build wsX20 := goodIn_r _ [243, 244, 245, 246] (by decide +kernel) (by decide +kernel)
set_option maxRecDepth 20000 in
theorem ggL_build_L_act_wsX10 : GoodIn wsL_build wsX10 := goodIn_r _ [247, 248] (by decide +kernel) (by decide +kernel)
set_option maxRecDepth 20000 in
theorem ggL_build_L_act_wsX00 : GoodIn wsL_build wsX00 := goodIn_r _ [249, 250, 251, 252, 253, 254, 255, 256, 257, 258, 259, 260, 261] (by decide +kernel) (by decide +kernel)
theorem ggL_build_L_act : GoodIn wsL_build wsL_act := goodIn_ca (goodIn_ca (goodIn_ca (goodIn_ca (goodIn_ca (goodIn_ca (goodIn_hd ggL_build_L_act_h (goodIn_app ggL_build_L_act_r1 (goodIn_app ggL_build_L_act_r2 (goodIn_app ggL_build_L_act_r3 (goodIn_app ggL_build_L_act_r4 (goodIn_app ggL_build_L_act_r5 (goodIn_app ggL_build_L_act_r6 ggL_build_L_act_r7))))))) ggL_build_L_act_wsX20) ggL_build_L_act_wsX10) ggL_build_L_act_wsX00) (goodIn_sub (fun _ h => List.mem_cons_of_mem _ (List.mem_append_left _ (List.mem_append_left _ (List.mem_append_right _ h)))) (by decide +kernel))) (goodIn_sub (fun _ h => List.mem_cons_of_mem _ (List.mem_append_left _ (List.mem_append_right _ h))) (by decide +kernel))) (goodIn_sub (fun _ h => List.mem_cons_of_mem _ (List.mem_append_right _ h)) (by decide +kernel))
set_option maxRecDepth 20000 in
theorem gL_build_L_act : GoodIn wsL_build (va_wsS RL 63 yL_act wsL_act) := goodIn_app (goodIn_of _ (by decide +kernel)) ggL_build_L_act
set_option maxRecDepth 20000 in
theorem ggL_build_X1_pass_h : GoodIn wsL_build [.code yX1_pass cX1_pass 2 (some .int)] := goodIn_r _ [181] (by decide +kernel) (by decide +kernel)
set_option maxRecDepth 20000 in
theorem ggL_build_X1_pass_r1 : GoodIn wsL_build wsX1_pass_r1 := goodIn_r _ [38, 182, 183, 34, 184, 137, 138, 185, 186, 187, 51, 188, 53, 189, 190, 191, 192, 193, 65, 194, 195, 196, 197, 198] (by decide +kernel) (by decide +kernel)
set_option maxRecDepth 20000 in
theorem ggL_build_X1_pass_r2 : GoodIn wsL_build wsX1_pass_r2 := goodIn_r _ [199, 200, 58, 64, 201, 202, 203, 204, 205, 83, 110, 111, 112, 113, 86, 87, 84, 85, 59, 60, 61, 62, 63, 66] (by decide +kernel) (by decide +kernel)
set_option maxRecDepth 20000 in
theorem ggL_build_X1_pass_r3 : GoodIn wsL_build wsX1_pass_r3 := goodIn_r _ [67, 68, 69, 70, 71, 72, 73, 74, 75, 76, 77, 78, 79, 80, 81, 82, 88, 89, 90, 91, 92, 93, 94, 95] (by decide +kernel) (by decide +kernel)
set_option maxRecDepth 20000 in
theorem ggL_build_X1_pass_r4 : GoodIn wsL_build wsX1_pass_r4 := goodIn_r _ [96, 97, 98, 99, 100, 101, 102, 103, 104, 105, 106, 107, 108, 109, 114, 115, 116, 117, 118, 119, 120, 121, 122, 123] (by decide +kernel) (by decide +kernel)
set_option maxRecDepth 20000 in
theorem ggL_build_X1_pass_r5 : GoodIn wsL_build wsX1_pass_r5 := goodIn_r _ [124, 125] (by decide +kernel) (by decide +kernel)
set_option maxRecDepth 20000 in
theorem ggL_build_X1_pass_wsX10 : GoodIn wsL_build wsX10 := goodIn_r _ [247, 248] (by decide +kernel) (by decide +kernel)
set_option maxRecDepth 20000 in
theorem ggL_build_X1_pass_wsX00 : GoodIn wsL_build wsX00 := goodIn_r _ [249, 250, 251, 252, 253, 254, 255, 256, 257, 258, 259, 260, 261] (by decide +kernel) (by decide +kernel)
theorem ggL_build_X1_pass : GoodIn wsL_build wsX1_pass := goodIn_ca (goodIn_ca (goodIn_ca (goodIn_hd ggL_build_X1_pass_h (goodIn_app ggL_build_X1_pass_r1 (goodIn_app ggL_build_X1_pass_r2 (goodIn_app ggL_build_X1_pass_r3 (goodIn_app ggL_build_X1_pass_r4 ggL_build_X1_pass_r5))))) ggL_build_X1_pass_wsX10) ggL_build_X1_pass_wsX00) (goodIn_sub (fun _ h => List.mem_cons_of_mem _ (List.mem_append_right _ h)) (by decide +kernel))
set_option maxRecDepth 20000 in
theorem gL_build_X1_pass : GoodIn wsL_build (wsV RL 67 RX1 yX1_pass wsX1_pass) := goodIn_app (goodIn_of _ (by decide +kernel)) ggL_build_X1_pass
set_option maxRecDepth 20000 in
theorem ggL_build_X2_pass : GoodIn wsL_build wsX2_pass := goodIn_r _ [209, 13, 210, 211, 212, 213, 14, 214, 155, 156, 3, 157, 11, 12, 158, 159, 120, 160, 161, 162, 163, 164, 165, 166, 167, 168, 215, 216, 217, 218, 219, 220, 221, 222, 223, 224, 225, 226, 227, 228, 229, 230, 231, 232, 233, 234, 235, 236, 237, 238, 170, 171, 172, 239, 240, 241, 242, 243, 244, 245, 246] (by decide +kernel) (by decide +kernel)
set_option maxRecDepth 20000 in
theorem gL_build_X2_pass : GoodIn wsL_build (wsV RL 71 RX2 yX2_pass wsX2_pass) := goodIn_app (goodIn_of _ (by decide +kernel)) ggL_build_X2_pass
theorem dL_build_0 : decode cL_build 0 = .ok (.new 16, 3) := by decide +kernel
theorem dL_build_3 : decode cL_build 3 = .ok (.dup, 1) := by decide +kernel
theorem dL_build_4 : decode cL_build 4 = .ok (.invokespecial 57, 3) := by decide +kernel
theorem dL_build_7 : decode cL_build 7 = .ok (.astore_n 2, 1) := by decide +kernel
theorem dL_build_8 : decode cL_build 8 = .ok (.iconst 0, 1) := by decide +kernel
theorem dL_build_9 : decode cL_build 9 = .ok (.istore_n 3, 1) := by decide +kernel
theorem dL_build_10 : decode cL_build 10 = .ok (.iload_n 3, 1) := by decide +kernel
theorem dL_build_11 : decode cL_build 11 = .ok (.bipush 44, 2) := by decide +kernel
theorem dL_build_13 : decode cL_build 13 = .ok (.if_icmp .ge 118, 3) := by decide +kernel
theorem dL_build_16 : decode cL_build 16 = .ok (.aload_n 1, 1) := by decide +kernel
theorem dL_build_17 : decode cL_build 17 = .ok (.iload_n 3, 1) := by decide +kernel
theorem dL_build_18 : decode cL_build 18 = .ok (.bipush 16, 2) := by decide +kernel
theorem dL_build_20 : decode cL_build 20 = .ok (.irem, 1) := by decide +kernel
theorem dL_build_21 : decode cL_build 21 = .ok (.invokestatic 58, 3) := by decide +kernel
theorem dL_build_24 : decode cL_build 24 = .ok (.iload_n 3, 1) := by decide +kernel
theorem dL_build_25 : decode cL_build 25 = .ok (.bipush 16, 2) := by decide +kernel
theorem dL_build_27 : decode cL_build 27 = .ok (.idiv, 1) := by decide +kernel
theorem dL_build_28 : decode cL_build 28 = .ok (.iconst 4, 1) := by decide +kernel
theorem dL_build_29 : decode cL_build 29 = .ok (.imul, 1) := by decide +kernel
theorem dL_build_30 : decode cL_build 30 = .ok (.ishr, 1) := by decide +kernel
theorem dL_build_31 : decode cL_build 31 = .ok (.bipush 59, 2) := by decide +kernel
theorem dL_build_33 : decode cL_build 33 = .ok (.iload_n 3, 1) := by decide +kernel
theorem dL_build_34 : decode cL_build 34 = .ok (.imul, 1) := by decide +kernel
theorem dL_build_35 : decode cL_build 35 = .ok (.iadd, 1) := by decide +kernel
theorem dL_build_36 : decode cL_build 36 = .ok (.istore 4, 2) := by decide +kernel
theorem dL_build_38 : decode cL_build 38 = .ok (.iload_n 3, 1) := by decide +kernel
theorem dL_build_39 : decode cL_build 39 = .ok (.bipush 24, 2) := by decide +kernel
theorem dL_build_41 : decode cL_build 41 = .ok (.if_icmp .ge 48, 3) := by decide +kernel
theorem dL_build_44 : decode cL_build 44 = .ok (.iload 4, 2) := by decide +kernel
theorem dL_build_46 : decode cL_build 46 = .ok (.ldc 62, 2) := by decide +kernel
theorem dL_build_48 : decode cL_build 48 = .ok (.invokestatic 9, 3) := by decide +kernel
theorem dL_build_51 : decode cL_build 51 = .ok (.bipush 12, 2) := by decide +kernel
theorem dL_build_53 : decode cL_build 53 = .ok (.imul, 1) := by decide +kernel
theorem dL_build_54 : decode cL_build 54 = .ok (.iload_n 3, 1) := by decide +kernel
theorem dL_build_55 : decode cL_build 55 = .ok (.bipush 8, 2) := by decide +kernel
theorem dL_build_57 : decode cL_build 57 = .ok (.if_icmp .ge 7, 3) := by decide +kernel
theorem dL_build_60 : decode cL_build 60 = .ok (.iconst 0, 1) := by decide +kernel
theorem dL_build_61 : decode cL_build 61 = .ok (.goto 25, 3) := by decide +kernel
theorem dL_build_64 : decode cL_build 64 = .ok (.iload_n 3, 1) := by decide +kernel
theorem dL_build_65 : decode cL_build 65 = .ok (.bipush 16, 2) := by decide +kernel
theorem dL_build_67 : decode cL_build 67 = .ok (.if_icmp .ge 7, 3) := by decide +kernel
theorem dL_build_70 : decode cL_build 70 = .ok (.iconst 5, 1) := by decide +kernel
theorem dL_build_71 : decode cL_build 71 = .ok (.goto 15, 3) := by decide +kernel
theorem dL_build_74 : decode cL_build 74 = .ok (.iload_n 3, 1) := by decide +kernel
theorem dL_build_75 : decode cL_build 75 = .ok (.iconst 3, 1) := by decide +kernel
theorem dL_build_76 : decode cL_build 76 = .ok (.irem, 1) := by decide +kernel
theorem dL_build_77 : decode cL_build 77 = .ok (.ifCond .ne 8, 3) := by decide +kernel
theorem dL_build_80 : decode cL_build 80 = .ok (.bipush 10, 2) := by decide +kernel
theorem dL_build_82 : decode cL_build 82 = .ok (.goto 4, 3) := by decide +kernel
theorem dL_build_85 : decode cL_build 85 = .ok (.iconst 1, 1) := by decide +kernel
theorem dL_build_86 : decode cL_build 86 = .ok (.iadd, 1) := by decide +kernel
theorem dL_build_87 : decode cL_build 87 = .ok (.istore 4, 2) := by decide +kernel
theorem dL_build_89 : decode cL_build 89 = .ok (.aload_n 0, 1) := by decide +kernel
theorem dL_build_90 : decode cL_build 90 = .ok (.aload_n 2, 1) := by decide +kernel
theorem dL_build_91 : decode cL_build 91 = .ok (.iload 4, 2) := by decide +kernel
theorem dL_build_93 : decode cL_build 93 = .ok (.invokestatic 63, 3) := by decide +kernel
theorem dL_build_96 : decode cL_build 96 = .ok (.ifCond .eq 27, 3) := by decide +kernel
theorem dL_build_99 : decode cL_build 99 = .ok (.iload_n 3, 1) := by decide +kernel
theorem dL_build_100 : decode cL_build 100 = .ok (.bipush 9, 2) := by decide +kernel
theorem dL_build_102 : decode cL_build 102 = .ok (.if_icmp .le 23, 3) := by decide +kernel
theorem dL_build_105 : decode cL_build 105 = .ok (.iload_n 3, 1) := by decide +kernel
theorem dL_build_106 : decode cL_build 106 = .ok (.iconst 5, 1) := by decide +kernel
theorem dL_build_107 : decode cL_build 107 = .ok (.irem, 1) := by decide +kernel
theorem dL_build_108 : decode cL_build 108 = .ok (.ifCond .ne 17, 3) := by decide +kernel
theorem dL_build_111 : decode cL_build 111 = .ok (.aload_n 0, 1) := by decide +kernel
theorem dL_build_112 : decode cL_build 112 = .ok (.iconst 1, 1) := by decide +kernel
theorem dL_build_113 : decode cL_build 113 = .ok (.invokevirtual 67, 3) := by decide +kernel
theorem dL_build_116 : decode cL_build 116 = .ok (.aload_n 2, 1) := by decide +kernel
theorem dL_build_117 : decode cL_build 117 = .ok (.invokevirtual 71, 3) := by decide +kernel
theorem dL_build_120 : decode cL_build 120 = .ok (.if_icmp .eq 5, 3) := by decide +kernel
theorem dL_build_123 : decode cL_build 123 = .ok (.aconst_null, 1) := by decide +kernel
theorem dL_build_124 : decode cL_build 124 = .ok (.areturn, 1) := by decide +kernel
theorem dL_build_125 : decode cL_build 125 = .ok (.iinc 3 1, 3) := by decide +kernel
theorem dL_build_128 : decode cL_build 128 = .ok (.goto (-118), 3) := by decide +kernel
theorem dL_build_131 : decode cL_build 131 = .ok (.aload_n 2, 1) := by decide +kernel
theorem dL_build_132 : decode cL_build 132 = .ok (.areturn, 1) := by decide +kernel

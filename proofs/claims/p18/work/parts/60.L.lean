theorem goodIn_hd {big b : List Cond} {c : Cond} (ha : GoodIn big [c]) (hb : GoodIn big b) : GoodIn big (c :: b) := fun w h => (List.mem_cons.mp h).elim (fun e => ha w (by rw [e]; exact List.mem_cons_self)) (hb w)
theorem dL_below_0 : decode cL_below 0 = .ok (.iload_n 0, 1) := by decide +kernel
theorem dL_below_1 : decode cL_below 1 = .ok (.ldc 7, 2) := by decide +kernel
theorem dL_below_3 : decode cL_below 3 = .ok (.iand, 1) := by decide +kernel
theorem dL_below_4 : decode cL_below 4 = .ok (.iload_n 1, 1) := by decide +kernel
theorem dL_below_5 : decode cL_below 5 = .ok (.irem, 1) := by decide +kernel
theorem dL_below_6 : decode cL_below 6 = .ok (.ireturn, 1) := by decide +kernel
theorem dL_cell_0 : decode cL_cell 0 = .ok (.iload_n 1, 1) := by decide +kernel
theorem dL_cell_1 : decode cL_cell 1 = .ok (.aload_n 0, 1) := by decide +kernel
theorem dL_cell_2 : decode cL_cell 2 = .ok (.arraylength, 1) := by decide +kernel
theorem dL_cell_3 : decode cL_cell 3 = .ok (.if_icmp .ge 9, 3) := by decide +kernel
theorem dL_cell_6 : decode cL_cell 6 = .ok (.aload_n 0, 1) := by decide +kernel
theorem dL_cell_7 : decode cL_cell 7 = .ok (.iload_n 1, 1) := by decide +kernel
theorem dL_cell_8 : decode cL_cell 8 = .ok (.iaload, 1) := by decide +kernel
theorem dL_cell_9 : decode cL_cell 9 = .ok (.goto 9, 3) := by decide +kernel
theorem dL_cell_12 : decode cL_cell 12 = .ok (.ldc 8, 2) := by decide +kernel
theorem dL_cell_14 : decode cL_cell 14 = .ok (.iload_n 1, 1) := by decide +kernel
theorem dL_cell_15 : decode cL_cell 15 = .ok (.iconst 3, 1) := by decide +kernel
theorem dL_cell_16 : decode cL_cell 16 = .ok (.iadd, 1) := by decide +kernel
theorem dL_cell_17 : decode cL_cell 17 = .ok (.imul, 1) := by decide +kernel
theorem dL_cell_18 : decode cL_cell 18 = .ok (.ireturn, 1) := by decide +kernel
set_option maxRecDepth 20000 in
theorem ggL_act_L_below : GoodIn wsL_act wsL_below := goodIn_r _ [8, 9] (by decide +kernel) (by decide +kernel)
set_option maxRecDepth 20000 in
theorem gL_act_L_below : GoodIn wsL_act (va_wsS RL 9 yL_below wsL_below) := goodIn_app (goodIn_of _ (by decide +kernel)) ggL_act_L_below
set_option maxRecDepth 20000 in
theorem ggL_act_X1_drain_h : GoodIn wsL_act [.code yX1_drain cX1_drain 4 (some .int)] := goodIn_r _ [14] (by decide +kernel) (by decide +kernel)
set_option maxRecDepth 20000 in
theorem ggL_act_X1_drain_r1 : GoodIn wsL_act wsX1_drain_r1 := goodIn_r _ [15, 16, 17, 18, 19, 13, 20, 21, 22, 23, 24, 25, 26, 27, 28, 29, 30, 31, 32, 33, 34, 35, 36, 37] (by decide +kernel) (by decide +kernel)
set_option maxRecDepth 20000 in
theorem ggL_act_X1_drain_r2 : GoodIn wsL_act wsX1_drain_r2 := goodIn_r _ [38, 39, 40, 41, 42, 43, 44, 45, 46, 47, 48, 49, 50, 51, 52, 53, 54, 55, 56, 57, 58, 59, 60, 61] (by decide +kernel) (by decide +kernel)
set_option maxRecDepth 20000 in
theorem ggL_act_X1_drain_r3 : GoodIn wsL_act wsX1_drain_r3 := goodIn_r _ [62, 63, 64, 65, 66, 67, 68, 69, 70, 71, 72, 73, 74, 75, 76, 77, 78, 79, 80, 81, 82, 83, 84, 85] (by decide +kernel) (by decide +kernel)
set_option maxRecDepth 20000 in
theorem ggL_act_X1_drain_r4 : GoodIn wsL_act wsX1_drain_r4 := goodIn_r _ [86, 87, 88, 89, 90, 91, 92, 93, 94, 95, 96, 97, 98, 99, 100, 101, 102, 103, 104] (by decide +kernel) (by decide +kernel)
set_option maxRecDepth 20000 in
theorem ggL_act_X1_drain_wsX10 : GoodIn wsL_act wsX10 := goodIn_r _ [165, 166] (by decide +kernel) (by decide +kernel)
set_option maxRecDepth 20000 in
theorem ggL_act_X1_drain_wsX00 : GoodIn wsL_act wsX00 := goodIn_r _ [167, 168, 169, 170, 171, 172, 173, 174, 175, 176, 177, 178, 179] (by decide +kernel) (by decide +kernel)
theorem ggL_act_X1_drain : GoodIn wsL_act wsX1_drain := goodIn_ca (goodIn_ca (goodIn_ca (goodIn_ca (goodIn_hd ggL_act_X1_drain_h (goodIn_app ggL_act_X1_drain_r1 (goodIn_app ggL_act_X1_drain_r2 (goodIn_app ggL_act_X1_drain_r3 ggL_act_X1_drain_r4)))) ggL_act_X1_drain_wsX10) ggL_act_X1_drain_wsX00) (goodIn_sub (fun _ h => List.mem_cons_of_mem _ (List.mem_append_left _ (List.mem_append_left _ (List.mem_append_right _ h)))) (by decide +kernel))) (goodIn_sub (fun _ h => List.mem_cons_of_mem _ (List.mem_append_left _ (List.mem_append_right _ h))) (by decide +kernel))
set_option maxRecDepth 20000 in
theorem gL_act_X1_drain : GoodIn wsL_act (wsV RL 25 RX1 yX1_drain wsX1_drain) := goodIn_app (goodIn_of _ (by decide +kernel)) ggL_act_X1_drain
set_option maxRecDepth 20000 in
theorem ggL_act_X1_dig_h : GoodIn wsL_act [.code yX1_dig cX1_dig 5 (some .int)] := goodIn_r _ [108] (by decide +kernel) (by decide +kernel)
set_option maxRecDepth 20000 in
theorem ggL_act_X1_dig_r1 : GoodIn wsL_act wsX1_dig_r1 := goodIn_r _ [15, 16, 17, 18, 19, 13, 20, 21, 22, 23, 24, 25, 26, 27, 28, 29, 30, 31, 32, 33, 34, 35, 36, 37] (by decide +kernel) (by decide +kernel)
set_option maxRecDepth 20000 in
theorem ggL_act_X1_dig_r2 : GoodIn wsL_act wsX1_dig_r2 := goodIn_r _ [38, 39, 40, 41, 42, 43, 44, 45, 46, 47, 48, 49, 50, 51, 52, 53, 54, 55, 56, 57, 58, 59, 60, 61] (by decide +kernel) (by decide +kernel)
set_option maxRecDepth 20000 in
theorem ggL_act_X1_dig_r3 : GoodIn wsL_act wsX1_dig_r3 := goodIn_r _ [62, 63, 64, 65, 66, 67, 68, 69, 70, 71, 72, 73, 74, 75, 76, 77, 78, 79, 80, 81, 82, 83, 84, 85] (by decide +kernel) (by decide +kernel)
set_option maxRecDepth 20000 in
theorem ggL_act_X1_dig_r4 : GoodIn wsL_act wsX1_dig_r4 := goodIn_r _ [86, 87, 88, 89, 90, 91, 92, 93, 94, 95, 96, 97, 98, 99, 100, 101, 102, 103, 104] (by decide +kernel) (by decide +kernel)
set_option maxRecDepth 20000 in
theorem ggL_act_X1_dig_wsX10 : GoodIn wsL_act wsX10 := goodIn_r _ [165, 166] (by decide +kernel) (by decide +kernel)
set_option maxRecDepth 20000 in
theorem ggL_act_X1_dig_wsX00 : GoodIn wsL_act wsX00 := goodIn_r _ [167, 168, 169, 170, 171, 172, 173, 174, 175, 176, 177, 178, 179] (by decide +kernel) (by decide +kernel)
theorem ggL_act_X1_dig : GoodIn wsL_act wsX1_dig := goodIn_ca (goodIn_ca (goodIn_ca (goodIn_ca (goodIn_hd ggL_act_X1_dig_h (goodIn_app ggL_act_X1_dig_r1 (goodIn_app ggL_act_X1_dig_r2 (goodIn_app ggL_act_X1_dig_r3 ggL_act_X1_dig_r4)))) ggL_act_X1_dig_wsX10) ggL_act_X1_dig_wsX00) (goodIn_sub (fun _ h => List.mem_cons_of_mem _ (List.mem_append_left _ (List.mem_append_left _ (List.mem_append_right _ h)))) (by decide +kernel))) (goodIn_sub (fun _ h => List.mem_cons_of_mem _ (List.mem_append_left _ (List.mem_append_right _ h))) (by decide +kernel))
set_option maxRecDepth 20000 in
theorem gL_act_X1_dig : GoodIn wsL_act (wsV RL 32 RX1 yX1_dig wsX1_dig) := goodIn_app (goodIn_of _ (by decide +kernel)) ggL_act_X1_dig
set_option maxRecDepth 20000 in
theorem ggL_act_X1_build_h : GoodIn wsL_act [.code yX1_build cX1_build 6 (some .int)] := goodIn_r _ [112] (by decide +kernel) (by decide +kernel)
set_option maxRecDepth 20000 in
theorem ggL_act_X1_build_r1 : GoodIn wsL_act wsX1_build_r1 := goodIn_r _ [17, 18, 19, 13, 20, 21, 22, 113, 114, 115, 116, 117, 118, 119, 120, 121, 15, 16, 122, 123, 124, 23, 24, 25] (by decide +kernel) (by decide +kernel)
set_option maxRecDepth 20000 in
theorem ggL_act_X1_build_r2 : GoodIn wsL_act wsX1_build_r2 := goodIn_r _ [26, 27, 28, 29, 30, 31, 32, 33, 34, 35, 36, 37, 38, 39, 40, 41, 42, 43, 44, 45, 46, 47, 48, 49] (by decide +kernel) (by decide +kernel)
set_option maxRecDepth 20000 in
theorem ggL_act_X1_build_r3 : GoodIn wsL_act wsX1_build_r3 := goodIn_r _ [50, 51, 52, 53, 54, 55, 56, 57, 58, 59, 60, 61, 62, 63, 64, 65, 66, 67, 68, 69, 70, 71, 72, 73] (by decide +kernel) (by decide +kernel)
set_option maxRecDepth 20000 in
theorem ggL_act_X1_build_r4 : GoodIn wsL_act wsX1_build_r4 := goodIn_r _ [74, 75, 76, 77, 78, 79, 80, 81, 82, 83, 84, 85, 86, 87, 88, 89, 90, 91, 92, 93, 94, 95, 96, 97] (by decide +kernel) (by decide +kernel)
set_option maxRecDepth 20000 in
theorem ggL_act_X1_build_r5 : GoodIn wsL_act wsX1_build_r5 := goodIn_r _ [98, 99, 100, 101, 102, 103, 104] (by decide +kernel) (by decide +kernel)
set_option maxRecDepth 20000 in
theorem ggL_act_X1_build_wsX10 : GoodIn wsL_act wsX10 := goodIn_r _ [165, 166] (by decide +kernel) (by decide +kernel)
set_option maxRecDepth 20000 in
theorem ggL_act_X1_build_wsX00 : GoodIn wsL_act wsX00 := goodIn_r _ [167, 168, 169, 170, 171, 172, 173, 174, 175, 176, 177, 178, 179] (by decide +kernel) (by decide +kernel)
theorem ggL_act_X1_build : GoodIn wsL_act wsX1_build := goodIn_ca (goodIn_ca (goodIn_ca (goodIn_ca (goodIn_ca (goodIn_hd ggL_act_X1_build_h (goodIn_app ggL_act_X1_build_r1 (goodIn_app ggL_act_X1_build_r2 (goodIn_app ggL_act_X1_build_r3 (goodIn_app ggL_act_X1_build_r4 ggL_act_X1_build_r5))))) ggL_act_X1_build_wsX10) ggL_act_X1_build_wsX00) (goodIn_sub (fun _ h => List.mem_cons_of_mem _ (List.mem_append_left _ (List.mem_append_right _ h))) (by decide +kernel))) (goodIn_sub (fun _ h => List.mem_cons_of_mem _ (List.mem_append_right _ h)) (by decide +kernel))) (goodIn_sub (fun _ h => List.mem_cons_of_mem _ (List.mem_append_left _ (List.mem_append_left _ (List.mem_append_right _ h)))) (by decide +kernel))
set_option maxRecDepth 20000 in
theorem gL_act_X1_build : GoodIn wsL_act (wsV RL 39 RX1 yX1_build wsX1_build) := goodIn_app (goodIn_of _ (by decide +kernel)) ggL_act_X1_build
set_option maxRecDepth 20000 in
theorem ggL_act_X1_bridge_h : GoodIn wsL_act [.code yX1_bridge cX1_bridge 4 (some .int)] := goodIn_r _ [128] (by decide +kernel) (by decide +kernel)
set_option maxRecDepth 20000 in
theorem ggL_act_X1_bridge_r1 : GoodIn wsL_act wsX1_bridge_r1 := goodIn_r _ [15, 16, 17, 18, 19, 13, 20, 21, 22, 23, 24, 25, 26, 27, 28, 29, 30, 31, 32, 33, 34, 35, 36, 37] (by decide +kernel) (by decide +kernel)
set_option maxRecDepth 20000 in
theorem ggL_act_X1_bridge_r2 : GoodIn wsL_act wsX1_bridge_r2 := goodIn_r _ [38, 39, 40, 41, 42, 43, 44, 45, 46, 47, 48, 49, 50, 51, 52, 53, 54, 55, 56, 57, 58, 59, 60, 61] (by decide +kernel) (by decide +kernel)
set_option maxRecDepth 20000 in
theorem ggL_act_X1_bridge_r3 : GoodIn wsL_act wsX1_bridge_r3 := goodIn_r _ [62, 63, 64, 65, 66, 67, 68, 69, 70, 71, 72, 73, 74, 75, 76, 77, 78, 79, 80, 81, 82, 83, 84, 85] (by decide +kernel) (by decide +kernel)
set_option maxRecDepth 20000 in
theorem ggL_act_X1_bridge_r4 : GoodIn wsL_act wsX1_bridge_r4 := goodIn_r _ [86, 87, 88, 89, 90, 91, 92, 93, 94, 95, 96, 97, 98, 99, 100, 101, 102, 103, 104, 129, 130, 131, 132] (by decide +kernel) (by decide +kernel)
set_option maxRecDepth 20000 in
theorem ggL_act_X1_bridge_wsX10 : GoodIn wsL_act wsX10 := goodIn_r _ [165, 166] (by decide +kernel) (by decide +kernel)
set_option maxRecDepth 20000 in
theorem ggL_act_X1_bridge_wsX00 : GoodIn wsL_act wsX00 := goodIn_r _ [167, 168, 169, 170, 171, 172, 173, 174, 175, 176, 177, 178, 179] (by decide +kernel) (by decide +kernel)
theorem ggL_act_X1_bridge : GoodIn wsL_act wsX1_bridge := goodIn_ca (goodIn_ca (goodIn_ca (goodIn_ca (goodIn_hd ggL_act_X1_bridge_h (goodIn_app ggL_act_X1_bridge_r1 (goodIn_app ggL_act_X1_bridge_r2 (goodIn_app ggL_act_X1_bridge_r3 ggL_act_X1_bridge_r4)))) ggL_act_X1_bridge_wsX10) ggL_act_X1_bridge_wsX00) (goodIn_sub (fun _ h => List.mem_cons_of_mem _ (List.mem_append_left _ (List.mem_append_left _ (List.mem_append_right _ h)))) (by decide +kernel))) (goodIn_sub (fun _ h => List.mem_cons_of_mem _ (List.mem_append_left _ (List.mem_append_right _ h))) (by decide +kernel))
set_option maxRecDepth 20000 in
theorem gL_act_X1_bridge : GoodIn wsL_act (wsV RL 43 RX1 yX1_bridge wsX1_bridge) := goodIn_app (goodIn_of _ (by decide +kernel)) ggL_act_X1_bridge
set_option maxRecDepth 20000 in
theorem ggL_act_X2_quarters : GoodIn wsL_act wsX2_quarters := goodIn_r _ [137, 138, 139, 140, 141, 99, 142, 143, 144, 145, 136, 146, 147, 148, 149, 150, 151, 161, 162, 163, 164] (by decide +kernel) (by decide +kernel)
set_option maxRecDepth 20000 in
theorem gL_act_X2_quarters : GoodIn wsL_act (wsV RL 46 RX2 yX2_quarters wsX2_quarters) := goodIn_app (goodIn_of _ (by decide +kernel)) ggL_act_X2_quarters
set_option maxRecDepth 20000 in
theorem ggL_act_X2_in : GoodIn wsL_act wsX2_in := goodIn_r _ [155, 151, 161, 162, 163, 164] (by decide +kernel) (by decide +kernel)
set_option maxRecDepth 20000 in
theorem gL_act_X2_in : GoodIn wsL_act (wsV RL 50 RX2 yX2_in wsX2_in) := goodIn_app (goodIn_of _ (by decide +kernel)) ggL_act_X2_in
set_option maxRecDepth 20000 in
theorem ggL_act_X1_raze_h : GoodIn wsL_act [.code yX1_raze cX1_raze 5 (some .int)] := goodIn_r _ [159] (by decide +kernel) (by decide +kernel)
set_option maxRecDepth 20000 in
theorem ggL_act_X1_raze_r1 : GoodIn wsL_act wsX1_raze_r1 := goodIn_r _ [15, 16, 17, 18, 19, 13, 20, 21, 22, 160, 34, 35, 30, 36, 37, 38, 39, 40, 41, 42, 43, 44, 45, 46] (by decide +kernel) (by decide +kernel)
set_option maxRecDepth 20000 in
theorem ggL_act_X1_raze_r2 : GoodIn wsL_act wsX1_raze_r2 := goodIn_r _ [47, 48, 49, 50, 51, 52, 53, 54, 55, 56, 57, 58, 59, 60, 61, 62, 63, 64, 65, 66, 67, 68, 69, 70] (by decide +kernel) (by decide +kernel)
set_option maxRecDepth 20000 in
theorem ggL_act_X1_raze_r3 : GoodIn wsL_act wsX1_raze_r3 := goodIn_r _ [71, 72, 73, 74, 75, 76, 77, 78, 79, 80, 81, 82, 83, 84, 85, 86, 87, 88, 89, 90, 91, 92, 93, 94] (by decide +kernel) (by decide +kernel)
set_option maxRecDepth 20000 in
theorem ggL_act_X1_raze_r4 : GoodIn wsL_act wsX1_raze_r4 := goodIn_r _ [95, 96, 97, 98, 99, 100, 101, 102, 103, 104] (by decide +kernel) (by decide +kernel)
set_option maxRecDepth 20000 in
theorem ggL_act_X1_raze_wsX10 : GoodIn wsL_act wsX10 := goodIn_r _ [165, 166] (by decide +kernel) (by decide +kernel)
set_option maxRecDepth 20000 in
theorem ggL_act_X1_raze_wsX00 : GoodIn wsL_act wsX00 := goodIn_r _ [167, 168, 169, 170, 171, 172, 173, 174, 175, 176, 177, 178, 179] (by decide +kernel) (by decide +kernel)
theorem ggL_act_X1_raze : GoodIn wsL_act wsX1_raze := goodIn_ca (goodIn_ca (goodIn_ca (goodIn_ca (goodIn_hd ggL_act_X1_raze_h (goodIn_app ggL_act_X1_raze_r1 (goodIn_app ggL_act_X1_raze_r2 (goodIn_app ggL_act_X1_raze_r3 ggL_act_X1_raze_r4)))) ggL_act_X1_raze_wsX10) ggL_act_X1_raze_wsX00) (goodIn_sub (fun _ h => List.mem_cons_of_mem _ (List.mem_append_left _ (List.mem_append_left _ (List.mem_append_right _ h)))) (by decide +kernel))) (goodIn_sub (fun _ h => List.mem_cons_of_mem _ (List.mem_append_left _ (List.mem_append_right _ h))) (by decide +kernel))
set_option maxRecDepth 20000 in
theorem gL_act_X1_raze : GoodIn wsL_act (wsV RL 54 RX1 yX1_raze wsX1_raze) := goodIn_app (goodIn_of _ (by decide +kernel)) ggL_act_X1_raze
theorem dL_act_0 : decode cL_act 0 = .ok (.iload_n 2, 1) := by decide +kernel
theorem dL_act_1 : decode cL_act 1 = .ok (.bipush 9, 2) := by decide +kernel
theorem dL_act_3 : decode cL_act 3 = .ok (.ishr, 1) := by decide +kernel
theorem dL_act_4 : decode cL_act 4 = .ok (.iconst 4, 1) := by decide +kernel
theorem dL_act_5 : decode cL_act 5 = .ok (.invokestatic 9, 3) := by decide +kernel
theorem dL_act_8 : decode cL_act 8 = .ok (.ifCond .ne 14, 3) := by decide +kernel
theorem dL_act_11 : decode cL_act 11 = .ok (.iload_n 2, 1) := by decide +kernel
theorem dL_act_12 : decode cL_act 12 = .ok (.iconst 4, 1) := by decide +kernel
theorem dL_act_13 : decode cL_act 13 = .ok (.ishr, 1) := by decide +kernel
theorem dL_act_14 : decode cL_act 14 = .ok (.bipush 8, 2) := by decide +kernel
theorem dL_act_16 : decode cL_act 16 = .ok (.invokestatic 9, 3) := by decide +kernel
theorem dL_act_19 : decode cL_act 19 = .ok (.goto 12, 3) := by decide +kernel
theorem dL_act_22 : decode cL_act 22 = .ok (.iconst 1, 1) := by decide +kernel
theorem dL_act_23 : decode cL_act 23 = .ok (.iload_n 2, 1) := by decide +kernel
theorem dL_act_24 : decode cL_act 24 = .ok (.iconst 4, 1) := by decide +kernel
theorem dL_act_25 : decode cL_act 25 = .ok (.ishr, 1) := by decide +kernel
theorem dL_act_26 : decode cL_act 26 = .ok (.iconst 5, 1) := by decide +kernel
theorem dL_act_27 : decode cL_act 27 = .ok (.invokestatic 9, 3) := by decide +kernel
theorem dL_act_30 : decode cL_act 30 = .ok (.iadd, 1) := by decide +kernel
theorem dL_act_31 : decode cL_act 31 = .ok (.istore_n 3, 1) := by decide +kernel
theorem dL_act_32 : decode cL_act 32 = .ok (.iload_n 2, 1) := by decide +kernel
theorem dL_act_33 : decode cL_act 33 = .ok (.bipush 10, 2) := by decide +kernel
theorem dL_act_35 : decode cL_act 35 = .ok (.ishr, 1) := by decide +kernel
theorem dL_act_36 : decode cL_act 36 = .ok (.iconst 3, 1) := by decide +kernel
theorem dL_act_37 : decode cL_act 37 = .ok (.invokestatic 9, 3) := by decide +kernel
theorem dL_act_40 : decode cL_act 40 = .ok (.ifCond .ne 15, 3) := by decide +kernel
theorem dL_act_43 : decode cL_act 43 = .ok (.iload_n 2, 1) := by decide +kernel
theorem dL_act_44 : decode cL_act 44 = .ok (.bipush 6, 2) := by decide +kernel
theorem dL_act_46 : decode cL_act 46 = .ok (.ishr, 1) := by decide +kernel
theorem dL_act_47 : decode cL_act 47 = .ok (.bipush 8, 2) := by decide +kernel
theorem dL_act_49 : decode cL_act 49 = .ok (.invokestatic 9, 3) := by decide +kernel
theorem dL_act_52 : decode cL_act 52 = .ok (.goto 11, 3) := by decide +kernel
theorem dL_act_55 : decode cL_act 55 = .ok (.iload_n 2, 1) := by decide +kernel
theorem dL_act_56 : decode cL_act 56 = .ok (.bipush 6, 2) := by decide +kernel
theorem dL_act_58 : decode cL_act 58 = .ok (.ishr, 1) := by decide +kernel
theorem dL_act_59 : decode cL_act 59 = .ok (.iconst 4, 1) := by decide +kernel
theorem dL_act_60 : decode cL_act 60 = .ok (.invokestatic 9, 3) := by decide +kernel
theorem dL_act_63 : decode cL_act 63 = .ok (.istore 4, 2) := by decide +kernel
theorem dL_act_65 : decode cL_act 65 = .ok (.aload_n 1, 1) := by decide +kernel
theorem dL_act_66 : decode cL_act 66 = .ok (.getfield 15, 3) := by decide +kernel
theorem dL_act_69 : decode cL_act 69 = .ok (.iload_n 3, 1) := by decide +kernel
theorem dL_act_70 : decode cL_act 70 = .ok (.aaload, 1) := by decide +kernel
theorem dL_act_71 : decode cL_act 71 = .ok (.iload 4, 2) := by decide +kernel
theorem dL_act_73 : decode cL_act 73 = .ok (.iaload, 1) := by decide +kernel
theorem dL_act_74 : decode cL_act 74 = .ok (.istore 5, 2) := by decide +kernel
theorem dL_act_76 : decode cL_act 76 = .ok (.iload_n 2, 1) := by decide +kernel
theorem dL_act_77 : decode cL_act 77 = .ok (.bipush 12, 2) := by decide +kernel
theorem dL_act_79 : decode cL_act 79 = .ok (.invokestatic 9, 3) := by decide +kernel
theorem dL_act_82 : decode cL_act 82 = .ok (.tableswitch 483 0 10 #[58, 58, 58, 58, 144, 236, 236, 236, 236, 236, 348], 58) := by decide +kernel
theorem dL_act_140 : decode cL_act 140 = .ok (.iload 5, 2) := by decide +kernel
theorem dL_act_142 : decode cL_act 142 = .ok (.ifCond .ne 15, 3) := by decide +kernel
theorem dL_act_145 : decode cL_act 145 = .ok (.aload_n 1, 1) := by decide +kernel
theorem dL_act_146 : decode cL_act 146 = .ok (.getfield 21, 3) := by decide +kernel
theorem dL_act_149 : decode cL_act 149 = .ok (.iconst 2, 1) := by decide +kernel
theorem dL_act_150 : decode cL_act 150 = .ok (.if_icmp .lt 7, 3) := by decide +kernel
theorem dL_act_153 : decode cL_act 153 = .ok (.iconst 1, 1) := by decide +kernel
theorem dL_act_154 : decode cL_act 154 = .ok (.goto 4, 3) := by decide +kernel
theorem dL_act_157 : decode cL_act 157 = .ok (.iconst 0, 1) := by decide +kernel
theorem dL_act_158 : decode cL_act 158 = .ok (.istore 7, 2) := by decide +kernel
theorem dL_act_160 : decode cL_act 160 = .ok (.iload 7, 2) := by decide +kernel
theorem dL_act_162 : decode cL_act 162 = .ok (.ifCond .eq 23, 3) := by decide +kernel
theorem dL_act_165 : decode cL_act 165 = .ok (.aload_n 1, 1) := by decide +kernel
theorem dL_act_166 : decode cL_act 166 = .ok (.getfield 15, 3) := by decide +kernel
theorem dL_act_169 : decode cL_act 169 = .ok (.iload_n 3, 1) := by decide +kernel
theorem dL_act_170 : decode cL_act 170 = .ok (.aaload, 1) := by decide +kernel
theorem dL_act_171 : decode cL_act 171 = .ok (.iload 4, 2) := by decide +kernel
theorem dL_act_173 : decode cL_act 173 = .ok (.iconst 2, 1) := by decide +kernel
theorem dL_act_174 : decode cL_act 174 = .ok (.iastore, 1) := by decide +kernel
theorem dL_act_175 : decode cL_act 175 = .ok (.aload_n 1, 1) := by decide +kernel
theorem dL_act_176 : decode cL_act 176 = .ok (.dup, 1) := by decide +kernel
theorem dL_act_177 : decode cL_act 177 = .ok (.getfield 21, 3) := by decide +kernel
theorem dL_act_180 : decode cL_act 180 = .ok (.iconst 2, 1) := by decide +kernel
theorem dL_act_181 : decode cL_act 181 = .ok (.isub, 1) := by decide +kernel
theorem dL_act_182 : decode cL_act 182 = .ok (.putfield 21, 3) := by decide +kernel
theorem dL_act_185 : decode cL_act 185 = .ok (.aload_n 0, 1) := by decide +kernel
theorem dL_act_186 : decode cL_act 186 = .ok (.iload_n 3, 1) := by decide +kernel
theorem dL_act_187 : decode cL_act 187 = .ok (.iload 4, 2) := by decide +kernel
theorem dL_act_189 : decode cL_act 189 = .ok (.invokevirtual 25, 3) := by decide +kernel
theorem dL_act_192 : decode cL_act 192 = .ok (.istore 6, 2) := by decide +kernel
theorem dL_act_194 : decode cL_act 194 = .ok (.goto 8, 3) := by decide +kernel
theorem dL_act_197 : decode cL_act 197 = .ok (.astore 8, 2) := by decide +kernel
theorem dL_act_199 : decode cL_act 199 = .ok (.iconst (-1), 1) := by decide +kernel
theorem dL_act_200 : decode cL_act 200 = .ok (.istore 6, 2) := by decide +kernel
theorem dL_act_202 : decode cL_act 202 = .ok (.iload 6, 2) := by decide +kernel
theorem dL_act_204 : decode cL_act 204 = .ok (.iload 7, 2) := by decide +kernel
theorem dL_act_206 : decode cL_act 206 = .ok (.ifCond .eq 10, 3) := by decide +kernel
theorem dL_act_209 : decode cL_act 209 = .ok (.aload_n 1, 1) := by decide +kernel
theorem dL_act_210 : decode cL_act 210 = .ok (.getfield 21, 3) := by decide +kernel
theorem dL_act_213 : decode cL_act 213 = .ok (.goto 4, 3) := by decide +kernel
theorem dL_act_216 : decode cL_act 216 = .ok (.iconst (-1), 1) := by decide +kernel
theorem dL_act_217 : decode cL_act 217 = .ok (.if_icmp .ne 7, 3) := by decide +kernel
theorem dL_act_220 : decode cL_act 220 = .ok (.iconst 1, 1) := by decide +kernel
theorem dL_act_221 : decode cL_act 221 = .ok (.goto 4, 3) := by decide +kernel
theorem dL_act_224 : decode cL_act 224 = .ok (.iconst 0, 1) := by decide +kernel
theorem dL_act_225 : decode cL_act 225 = .ok (.ireturn, 1) := by decide +kernel
theorem dL_act_226 : decode cL_act 226 = .ok (.iload 5, 2) := by decide +kernel
theorem dL_act_228 : decode cL_act 228 = .ok (.ifCond .eq 9, 3) := by decide +kernel
theorem dL_act_231 : decode cL_act 231 = .ok (.iload 5, 2) := by decide +kernel
theorem dL_act_233 : decode cL_act 233 = .ok (.iconst 2, 1) := by decide +kernel
theorem dL_act_234 : decode cL_act 234 = .ok (.if_icmp .ne 15, 3) := by decide +kernel
theorem dL_act_237 : decode cL_act 237 = .ok (.aload_n 1, 1) := by decide +kernel
theorem dL_act_238 : decode cL_act 238 = .ok (.getfield 21, 3) := by decide +kernel
theorem dL_act_241 : decode cL_act 241 = .ok (.iconst 3, 1) := by decide +kernel
theorem dL_act_242 : decode cL_act 242 = .ok (.if_icmp .lt 7, 3) := by decide +kernel
theorem dL_act_245 : decode cL_act 245 = .ok (.iconst 1, 1) := by decide +kernel
theorem dL_act_246 : decode cL_act 246 = .ok (.goto 4, 3) := by decide +kernel
theorem dL_act_249 : decode cL_act 249 = .ok (.iconst 0, 1) := by decide +kernel
theorem dL_act_250 : decode cL_act 250 = .ok (.istore 7, 2) := by decide +kernel
theorem dL_act_252 : decode cL_act 252 = .ok (.iload 7, 2) := by decide +kernel
theorem dL_act_254 : decode cL_act 254 = .ok (.ifCond .eq 23, 3) := by decide +kernel
theorem dL_act_257 : decode cL_act 257 = .ok (.aload_n 1, 1) := by decide +kernel
theorem dL_act_258 : decode cL_act 258 = .ok (.getfield 15, 3) := by decide +kernel
theorem dL_act_261 : decode cL_act 261 = .ok (.iload_n 3, 1) := by decide +kernel
theorem dL_act_262 : decode cL_act 262 = .ok (.aaload, 1) := by decide +kernel
theorem dL_act_263 : decode cL_act 263 = .ok (.iload 4, 2) := by decide +kernel
theorem dL_act_265 : decode cL_act 265 = .ok (.iconst 1, 1) := by decide +kernel
theorem dL_act_266 : decode cL_act 266 = .ok (.iastore, 1) := by decide +kernel
theorem dL_act_267 : decode cL_act 267 = .ok (.aload_n 1, 1) := by decide +kernel
theorem dL_act_268 : decode cL_act 268 = .ok (.dup, 1) := by decide +kernel
theorem dL_act_269 : decode cL_act 269 = .ok (.getfield 21, 3) := by decide +kernel
theorem dL_act_272 : decode cL_act 272 = .ok (.iconst 3, 1) := by decide +kernel
theorem dL_act_273 : decode cL_act 273 = .ok (.isub, 1) := by decide +kernel
theorem dL_act_274 : decode cL_act 274 = .ok (.putfield 21, 3) := by decide +kernel
theorem dL_act_277 : decode cL_act 277 = .ok (.aload_n 0, 1) := by decide +kernel
theorem dL_act_278 : decode cL_act 278 = .ok (.iload_n 3, 1) := by decide +kernel
theorem dL_act_279 : decode cL_act 279 = .ok (.iload 4, 2) := by decide +kernel
theorem dL_act_281 : decode cL_act 281 = .ok (.invokevirtual 32, 3) := by decide +kernel
theorem dL_act_284 : decode cL_act 284 = .ok (.istore 6, 2) := by decide +kernel
theorem dL_act_286 : decode cL_act 286 = .ok (.goto 8, 3) := by decide +kernel
theorem dL_act_289 : decode cL_act 289 = .ok (.astore 8, 2) := by decide +kernel
theorem dL_act_291 : decode cL_act 291 = .ok (.iconst (-1), 1) := by decide +kernel
theorem dL_act_292 : decode cL_act 292 = .ok (.istore 6, 2) := by decide +kernel
theorem dL_act_294 : decode cL_act 294 = .ok (.iload 6, 2) := by decide +kernel
theorem dL_act_296 : decode cL_act 296 = .ok (.iload 7, 2) := by decide +kernel
theorem dL_act_298 : decode cL_act 298 = .ok (.ifCond .eq 10, 3) := by decide +kernel
theorem dL_act_301 : decode cL_act 301 = .ok (.aload_n 1, 1) := by decide +kernel
theorem dL_act_302 : decode cL_act 302 = .ok (.getfield 21, 3) := by decide +kernel
theorem dL_act_305 : decode cL_act 305 = .ok (.goto 4, 3) := by decide +kernel
theorem dL_act_308 : decode cL_act 308 = .ok (.iconst (-1), 1) := by decide +kernel
theorem dL_act_309 : decode cL_act 309 = .ok (.if_icmp .ne 7, 3) := by decide +kernel
theorem dL_act_312 : decode cL_act 312 = .ok (.iconst 1, 1) := by decide +kernel
theorem dL_act_313 : decode cL_act 313 = .ok (.goto 4, 3) := by decide +kernel
theorem dL_act_316 : decode cL_act 316 = .ok (.iconst 0, 1) := by decide +kernel
theorem dL_act_317 : decode cL_act 317 = .ok (.ireturn, 1) := by decide +kernel
theorem dL_act_318 : decode cL_act 318 = .ok (.iconst 3, 1) := by decide +kernel
theorem dL_act_319 : decode cL_act 319 = .ok (.iload_n 2, 1) := by decide +kernel
theorem dL_act_320 : decode cL_act 320 = .ok (.bipush 7, 2) := by decide +kernel
theorem dL_act_322 : decode cL_act 322 = .ok (.ishr, 1) := by decide +kernel
theorem dL_act_323 : decode cL_act 323 = .ok (.iconst 3, 1) := by decide +kernel
theorem dL_act_324 : decode cL_act 324 = .ok (.invokestatic 9, 3) := by decide +kernel
theorem dL_act_327 : decode cL_act 327 = .ok (.iadd, 1) := by decide +kernel
theorem dL_act_328 : decode cL_act 328 = .ok (.istore 7, 2) := by decide +kernel
theorem dL_act_330 : decode cL_act 330 = .ok (.iload 5, 2) := by decide +kernel
theorem dL_act_332 : decode cL_act 332 = .ok (.iconst 2, 1) := by decide +kernel
theorem dL_act_333 : decode cL_act 333 = .ok (.if_icmp .ne 20, 3) := by decide +kernel
theorem dL_act_336 : decode cL_act 336 = .ok (.aload_n 1, 1) := by decide +kernel
theorem dL_act_337 : decode cL_act 337 = .ok (.getfield 21, 3) := by decide +kernel
theorem dL_act_340 : decode cL_act 340 = .ok (.getstatic 35, 3) := by decide +kernel
theorem dL_act_343 : decode cL_act 343 = .ok (.iload 7, 2) := by decide +kernel
theorem dL_act_345 : decode cL_act 345 = .ok (.iaload, 1) := by decide +kernel
theorem dL_act_346 : decode cL_act 346 = .ok (.if_icmp .lt 7, 3) := by decide +kernel
theorem dL_act_349 : decode cL_act 349 = .ok (.iconst 1, 1) := by decide +kernel
theorem dL_act_350 : decode cL_act 350 = .ok (.goto 4, 3) := by decide +kernel
theorem dL_act_353 : decode cL_act 353 = .ok (.iconst 0, 1) := by decide +kernel
theorem dL_act_354 : decode cL_act 354 = .ok (.istore 8, 2) := by decide +kernel
theorem dL_act_356 : decode cL_act 356 = .ok (.iload 8, 2) := by decide +kernel
theorem dL_act_358 : decode cL_act 358 = .ok (.ifCond .eq 29, 3) := by decide +kernel
theorem dL_act_361 : decode cL_act 361 = .ok (.aload_n 1, 1) := by decide +kernel
theorem dL_act_362 : decode cL_act 362 = .ok (.getfield 15, 3) := by decide +kernel
theorem dL_act_365 : decode cL_act 365 = .ok (.iload_n 3, 1) := by decide +kernel
theorem dL_act_366 : decode cL_act 366 = .ok (.aaload, 1) := by decide +kernel
theorem dL_act_367 : decode cL_act 367 = .ok (.iload 4, 2) := by decide +kernel
theorem dL_act_369 : decode cL_act 369 = .ok (.iload 7, 2) := by decide +kernel
theorem dL_act_371 : decode cL_act 371 = .ok (.iastore, 1) := by decide +kernel
theorem dL_act_372 : decode cL_act 372 = .ok (.aload_n 1, 1) := by decide +kernel
theorem dL_act_373 : decode cL_act 373 = .ok (.dup, 1) := by decide +kernel
theorem dL_act_374 : decode cL_act 374 = .ok (.getfield 21, 3) := by decide +kernel
theorem dL_act_377 : decode cL_act 377 = .ok (.getstatic 35, 3) := by decide +kernel
theorem dL_act_380 : decode cL_act 380 = .ok (.iload 7, 2) := by decide +kernel
theorem dL_act_382 : decode cL_act 382 = .ok (.iaload, 1) := by decide +kernel
theorem dL_act_383 : decode cL_act 383 = .ok (.isub, 1) := by decide +kernel
theorem dL_act_384 : decode cL_act 384 = .ok (.putfield 21, 3) := by decide +kernel
theorem dL_act_387 : decode cL_act 387 = .ok (.aload_n 0, 1) := by decide +kernel
theorem dL_act_388 : decode cL_act 388 = .ok (.iload_n 3, 1) := by decide +kernel
theorem dL_act_389 : decode cL_act 389 = .ok (.iload 4, 2) := by decide +kernel
theorem dL_act_391 : decode cL_act 391 = .ok (.iload 7, 2) := by decide +kernel
theorem dL_act_393 : decode cL_act 393 = .ok (.invokevirtual 39, 3) := by decide +kernel
theorem dL_act_396 : decode cL_act 396 = .ok (.istore 6, 2) := by decide +kernel
theorem dL_act_398 : decode cL_act 398 = .ok (.goto 8, 3) := by decide +kernel
theorem dL_act_401 : decode cL_act 401 = .ok (.astore 9, 2) := by decide +kernel
theorem dL_act_403 : decode cL_act 403 = .ok (.iconst (-1), 1) := by decide +kernel
theorem dL_act_404 : decode cL_act 404 = .ok (.istore 6, 2) := by decide +kernel
theorem dL_act_406 : decode cL_act 406 = .ok (.iload 6, 2) := by decide +kernel
theorem dL_act_408 : decode cL_act 408 = .ok (.iload 8, 2) := by decide +kernel
theorem dL_act_410 : decode cL_act 410 = .ok (.ifCond .eq 10, 3) := by decide +kernel
theorem dL_act_413 : decode cL_act 413 = .ok (.aload_n 1, 1) := by decide +kernel
theorem dL_act_414 : decode cL_act 414 = .ok (.getfield 21, 3) := by decide +kernel
theorem dL_act_417 : decode cL_act 417 = .ok (.goto 4, 3) := by decide +kernel
theorem dL_act_420 : decode cL_act 420 = .ok (.iconst (-1), 1) := by decide +kernel
theorem dL_act_421 : decode cL_act 421 = .ok (.if_icmp .ne 7, 3) := by decide +kernel
theorem dL_act_424 : decode cL_act 424 = .ok (.iconst 1, 1) := by decide +kernel
theorem dL_act_425 : decode cL_act 425 = .ok (.goto 4, 3) := by decide +kernel
theorem dL_act_428 : decode cL_act 428 = .ok (.iconst 0, 1) := by decide +kernel
theorem dL_act_429 : decode cL_act 429 = .ok (.ireturn, 1) := by decide +kernel
theorem dL_act_430 : decode cL_act 430 = .ok (.iload_n 2, 1) := by decide +kernel
theorem dL_act_431 : decode cL_act 431 = .ok (.bipush 8, 2) := by decide +kernel
theorem dL_act_433 : decode cL_act 433 = .ok (.ishr, 1) := by decide +kernel
theorem dL_act_434 : decode cL_act 434 = .ok (.iconst 2, 1) := by decide +kernel
theorem dL_act_435 : decode cL_act 435 = .ok (.invokestatic 9, 3) := by decide +kernel
theorem dL_act_438 : decode cL_act 438 = .ok (.ifCond .ne 7, 3) := by decide +kernel
theorem dL_act_441 : decode cL_act 441 = .ok (.iconst 3, 1) := by decide +kernel
theorem dL_act_442 : decode cL_act 442 = .ok (.goto 4, 3) := by decide +kernel
theorem dL_act_445 : decode cL_act 445 = .ok (.iload_n 3, 1) := by decide +kernel
theorem dL_act_446 : decode cL_act 446 = .ok (.istore 7, 2) := by decide +kernel
theorem dL_act_448 : decode cL_act 448 = .ok (.aload_n 1, 1) := by decide +kernel
theorem dL_act_449 : decode cL_act 449 = .ok (.getfield 15, 3) := by decide +kernel
theorem dL_act_452 : decode cL_act 452 = .ok (.iload 7, 2) := by decide +kernel
theorem dL_act_454 : decode cL_act 454 = .ok (.aaload, 1) := by decide +kernel
theorem dL_act_455 : decode cL_act 455 = .ok (.iload 4, 2) := by decide +kernel
theorem dL_act_457 : decode cL_act 457 = .ok (.iaload, 1) := by decide +kernel
theorem dL_act_458 : decode cL_act 458 = .ok (.iconst 1, 1) := by decide +kernel
theorem dL_act_459 : decode cL_act 459 = .ok (.if_icmp .ne 16, 3) := by decide +kernel
theorem dL_act_462 : decode cL_act 462 = .ok (.aload_n 1, 1) := by decide +kernel
theorem dL_act_463 : decode cL_act 463 = .ok (.getfield 21, 3) := by decide +kernel
theorem dL_act_466 : decode cL_act 466 = .ok (.bipush 7, 2) := by decide +kernel
theorem dL_act_468 : decode cL_act 468 = .ok (.if_icmp .lt 7, 3) := by decide +kernel
theorem dL_act_471 : decode cL_act 471 = .ok (.iconst 1, 1) := by decide +kernel
theorem dL_act_472 : decode cL_act 472 = .ok (.goto 4, 3) := by decide +kernel
theorem dL_act_475 : decode cL_act 475 = .ok (.iconst 0, 1) := by decide +kernel
theorem dL_act_476 : decode cL_act 476 = .ok (.istore 8, 2) := by decide +kernel
theorem dL_act_478 : decode cL_act 478 = .ok (.iload 8, 2) := by decide +kernel
theorem dL_act_480 : decode cL_act 480 = .ok (.ifCond .eq 26, 3) := by decide +kernel
theorem dL_act_483 : decode cL_act 483 = .ok (.aload_n 1, 1) := by decide +kernel
theorem dL_act_484 : decode cL_act 484 = .ok (.getfield 15, 3) := by decide +kernel
theorem dL_act_487 : decode cL_act 487 = .ok (.iload 7, 2) := by decide +kernel
theorem dL_act_489 : decode cL_act 489 = .ok (.aaload, 1) := by decide +kernel
theorem dL_act_490 : decode cL_act 490 = .ok (.iload 4, 2) := by decide +kernel
theorem dL_act_492 : decode cL_act 492 = .ok (.bipush 6, 2) := by decide +kernel
theorem dL_act_494 : decode cL_act 494 = .ok (.iastore, 1) := by decide +kernel
theorem dL_act_495 : decode cL_act 495 = .ok (.aload_n 1, 1) := by decide +kernel
theorem dL_act_496 : decode cL_act 496 = .ok (.dup, 1) := by decide +kernel
theorem dL_act_497 : decode cL_act 497 = .ok (.getfield 21, 3) := by decide +kernel
theorem dL_act_500 : decode cL_act 500 = .ok (.bipush 7, 2) := by decide +kernel
theorem dL_act_502 : decode cL_act 502 = .ok (.isub, 1) := by decide +kernel
theorem dL_act_503 : decode cL_act 503 = .ok (.putfield 21, 3) := by decide +kernel
theorem dL_act_506 : decode cL_act 506 = .ok (.aload_n 0, 1) := by decide +kernel
theorem dL_act_507 : decode cL_act 507 = .ok (.iload 7, 2) := by decide +kernel
theorem dL_act_509 : decode cL_act 509 = .ok (.iload 4, 2) := by decide +kernel
theorem dL_act_511 : decode cL_act 511 = .ok (.invokevirtual 43, 3) := by decide +kernel
theorem dL_act_514 : decode cL_act 514 = .ok (.istore 6, 2) := by decide +kernel
theorem dL_act_516 : decode cL_act 516 = .ok (.goto 8, 3) := by decide +kernel
theorem dL_act_519 : decode cL_act 519 = .ok (.astore 9, 2) := by decide +kernel
theorem dL_act_521 : decode cL_act 521 = .ok (.iconst (-1), 1) := by decide +kernel
theorem dL_act_522 : decode cL_act 522 = .ok (.istore 6, 2) := by decide +kernel
theorem dL_act_524 : decode cL_act 524 = .ok (.aload_n 1, 1) := by decide +kernel
theorem dL_act_525 : decode cL_act 525 = .ok (.invokevirtual 46, 3) := by decide +kernel
theorem dL_act_528 : decode cL_act 528 = .ok (.astore 9, 2) := by decide +kernel
theorem dL_act_530 : decode cL_act 530 = .ok (.iload 6, 2) := by decide +kernel
theorem dL_act_532 : decode cL_act 532 = .ok (.iload 8, 2) := by decide +kernel
theorem dL_act_534 : decode cL_act 534 = .ok (.ifCond .eq 21, 3) := by decide +kernel
theorem dL_act_537 : decode cL_act 537 = .ok (.aload_n 1, 1) := by decide +kernel
theorem dL_act_538 : decode cL_act 538 = .ok (.aload 9, 2) := by decide +kernel
theorem dL_act_540 : decode cL_act 540 = .ok (.aload 9, 2) := by decide +kernel
theorem dL_act_542 : decode cL_act 542 = .ok (.iload 7, 2) := by decide +kernel
theorem dL_act_544 : decode cL_act 544 = .ok (.aaload, 1) := by decide +kernel
theorem dL_act_545 : decode cL_act 545 = .ok (.iload 4, 2) := by decide +kernel
theorem dL_act_547 : decode cL_act 547 = .ok (.iaload, 1) := by decide +kernel
theorem dL_act_548 : decode cL_act 548 = .ok (.iconst (-1), 1) := by decide +kernel
theorem dL_act_549 : decode cL_act 549 = .ok (.invokevirtual 50, 3) := by decide +kernel
theorem dL_act_552 : decode cL_act 552 = .ok (.goto 4, 3) := by decide +kernel
theorem dL_act_555 : decode cL_act 555 = .ok (.iconst (-1), 1) := by decide +kernel
theorem dL_act_556 : decode cL_act 556 = .ok (.if_icmp .ne 7, 3) := by decide +kernel
theorem dL_act_559 : decode cL_act 559 = .ok (.iconst 1, 1) := by decide +kernel
theorem dL_act_560 : decode cL_act 560 = .ok (.goto 4, 3) := by decide +kernel
theorem dL_act_563 : decode cL_act 563 = .ok (.iconst 0, 1) := by decide +kernel
theorem dL_act_564 : decode cL_act 564 = .ok (.ireturn, 1) := by decide +kernel
theorem dL_act_565 : decode cL_act 565 = .ok (.iload_n 2, 1) := by decide +kernel
theorem dL_act_566 : decode cL_act 566 = .ok (.bipush 8, 2) := by decide +kernel
theorem dL_act_568 : decode cL_act 568 = .ok (.ishr, 1) := by decide +kernel
theorem dL_act_569 : decode cL_act 569 = .ok (.iconst 3, 1) := by decide +kernel
theorem dL_act_570 : decode cL_act 570 = .ok (.invokestatic 9, 3) := by decide +kernel
theorem dL_act_573 : decode cL_act 573 = .ok (.ifCond .le 5, 3) := by decide +kernel
theorem dL_act_576 : decode cL_act 576 = .ok (.iconst 1, 1) := by decide +kernel
theorem dL_act_577 : decode cL_act 577 = .ok (.ireturn, 1) := by decide +kernel
theorem dL_act_578 : decode cL_act 578 = .ok (.iload 5, 2) := by decide +kernel
theorem dL_act_580 : decode cL_act 580 = .ok (.iconst 2, 1) := by decide +kernel
theorem dL_act_581 : decode cL_act 581 = .ok (.if_icmp .le 7, 3) := by decide +kernel
theorem dL_act_584 : decode cL_act 584 = .ok (.iconst 1, 1) := by decide +kernel
theorem dL_act_585 : decode cL_act 585 = .ok (.goto 4, 3) := by decide +kernel
theorem dL_act_588 : decode cL_act 588 = .ok (.iconst 0, 1) := by decide +kernel
theorem dL_act_589 : decode cL_act 589 = .ok (.istore 7, 2) := by decide +kernel
theorem dL_act_591 : decode cL_act 591 = .ok (.aload_n 1, 1) := by decide +kernel
theorem dL_act_592 : decode cL_act 592 = .ok (.getfield 15, 3) := by decide +kernel
theorem dL_act_595 : decode cL_act 595 = .ok (.iload_n 3, 1) := by decide +kernel
theorem dL_act_596 : decode cL_act 596 = .ok (.aaload, 1) := by decide +kernel
theorem dL_act_597 : decode cL_act 597 = .ok (.iload 4, 2) := by decide +kernel
theorem dL_act_599 : decode cL_act 599 = .ok (.iload 7, 2) := by decide +kernel
theorem dL_act_601 : decode cL_act 601 = .ok (.ifCond .eq 18, 3) := by decide +kernel
theorem dL_act_604 : decode cL_act 604 = .ok (.iload 5, 2) := by decide +kernel
theorem dL_act_606 : decode cL_act 606 = .ok (.bipush 6, 2) := by decide +kernel
theorem dL_act_608 : decode cL_act 608 = .ok (.if_icmp .ne 7, 3) := by decide +kernel
theorem dL_act_611 : decode cL_act 611 = .ok (.iconst 1, 1) := by decide +kernel
theorem dL_act_612 : decode cL_act 612 = .ok (.goto 9, 3) := by decide +kernel
theorem dL_act_615 : decode cL_act 615 = .ok (.iconst 2, 1) := by decide +kernel
theorem dL_act_616 : decode cL_act 616 = .ok (.goto 5, 3) := by decide +kernel
theorem dL_act_619 : decode cL_act 619 = .ok (.iload 5, 2) := by decide +kernel
theorem dL_act_621 : decode cL_act 621 = .ok (.iastore, 1) := by decide +kernel
theorem dL_act_622 : decode cL_act 622 = .ok (.aload_n 0, 1) := by decide +kernel
theorem dL_act_623 : decode cL_act 623 = .ok (.iload_n 3, 1) := by decide +kernel
theorem dL_act_624 : decode cL_act 624 = .ok (.iload 4, 2) := by decide +kernel
theorem dL_act_626 : decode cL_act 626 = .ok (.invokevirtual 54, 3) := by decide +kernel
theorem dL_act_629 : decode cL_act 629 = .ok (.istore 6, 2) := by decide +kernel
theorem dL_act_631 : decode cL_act 631 = .ok (.goto 8, 3) := by decide +kernel
theorem dL_act_634 : decode cL_act 634 = .ok (.astore 8, 2) := by decide +kernel
theorem dL_act_636 : decode cL_act 636 = .ok (.iconst (-1), 1) := by decide +kernel
theorem dL_act_637 : decode cL_act 637 = .ok (.istore 6, 2) := by decide +kernel
theorem dL_act_639 : decode cL_act 639 = .ok (.iload 6, 2) := by decide +kernel
theorem dL_act_641 : decode cL_act 641 = .ok (.iload 7, 2) := by decide +kernel
theorem dL_act_643 : decode cL_act 643 = .ok (.ifCond .eq 8, 3) := by decide +kernel
theorem dL_act_646 : decode cL_act 646 = .ok (.iload 5, 2) := by decide +kernel
theorem dL_act_648 : decode cL_act 648 = .ok (.goto 4, 3) := by decide +kernel
theorem dL_act_651 : decode cL_act 651 = .ok (.iconst (-1), 1) := by decide +kernel
theorem dL_act_652 : decode cL_act 652 = .ok (.if_icmp .ne 7, 3) := by decide +kernel
theorem dL_act_655 : decode cL_act 655 = .ok (.iconst 1, 1) := by decide +kernel
theorem dL_act_656 : decode cL_act 656 = .ok (.goto 4, 3) := by decide +kernel
theorem dL_act_659 : decode cL_act 659 = .ok (.iconst 0, 1) := by decide +kernel
theorem dL_act_660 : decode cL_act 660 = .ok (.ireturn, 1) := by decide +kernel

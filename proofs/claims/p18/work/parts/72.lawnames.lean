set_option maxRecDepth 20000 in
theorem ggL_law_X1_init_h : GoodIn wsL_law [.code yX1_init cX1_init 1 none] := goodIn_r _ [14] (by decide +kernel) (by decide +kernel)
set_option maxRecDepth 20000 in
theorem ggL_law_X1_init_r1 : GoodIn wsL_law wsX1_init_r1 := goodIn_r _ [15, 16, 17, 18, 19, 20, 21, 22, 23, 24, 25, 26, 27, 28, 29, 4, 30, 31, 32, 33, 34, 35, 36, 37] (by decide +kernel) (by decide +kernel)
set_option maxRecDepth 20000 in
theorem ggL_law_X1_init_r2 : GoodIn wsL_law wsX1_init_r2 := goodIn_r _ [38, 39, 40, 41, 42, 43, 44, 45, 46, 47, 48, 49, 50, 51, 2, 52, 53, 54, 55, 56, 57, 58, 59, 60] (by decide +kernel) (by decide +kernel)
set_option maxRecDepth 20000 in
theorem ggL_law_X1_init_r3 : GoodIn wsL_law wsX1_init_r3 := goodIn_r _ [61, 62, 63, 64, 65, 66, 67, 68, 69, 70, 71, 72, 73, 74, 75, 76, 77, 78, 79, 80, 81, 82, 83, 84] (by decide +kernel) (by decide +kernel)
set_option maxRecDepth 20000 in
theorem ggL_law_X1_init_r4 : GoodIn wsL_law wsX1_init_r4 := goodIn_r _ [85, 86, 87, 88, 89, 90, 91, 6, 7, 8, 92, 93, 94, 95] (by decide +kernel) (by decide +kernel)
set_option maxRecDepth 20000 in
theorem ggL_law_X1_init_wsX00 : GoodIn wsL_law wsX00 := goodIn_r _ [361, 362, 363, 364, 365, 366, 367, 368, 369, 370, 371, 372, 373] (by decide +kernel) (by decide +kernel)
set_option maxRecDepth 20000 in
theorem ggL_law_X1_init_wsX10 : GoodIn wsL_law wsX10 := goodIn_r _ [359, 360] (by decide +kernel) (by decide +kernel)
theorem ggL_law_X1_init : GoodIn wsL_law wsX1_init := (goodIn_ca (goodIn_ca (goodIn_hd ggL_law_X1_init_h (goodIn_app ggL_law_X1_init_r1 (goodIn_app ggL_law_X1_init_r2 (goodIn_app ggL_law_X1_init_r3 ggL_law_X1_init_r4)))) ggL_law_X1_init_wsX00) ggL_law_X1_init_wsX10)
set_option maxRecDepth 20000 in
theorem gL_law_X1_init : GoodIn wsL_law (wsX1_init) := ggL_law_X1_init
set_option maxRecDepth 20000 in
theorem ggL_law_L_build_h : GoodIn wsL_law [.code yL_build cL_build 5 (some (.object "CanalCityLaw$Sim"))] := goodIn_r _ [99] (by decide +kernel) (by decide +kernel)
set_option maxRecDepth 20000 in
theorem ggL_law_L_build_r1 : GoodIn wsL_law wsL_build_r1 := goodIn_r _ [100, 101, 102, 103, 104, 105, 106, 107, 16, 17, 108, 4, 109, 110, 111, 112, 98, 113, 114, 115, 116, 117, 118, 119] (by decide +kernel) (by decide +kernel)
set_option maxRecDepth 20000 in
theorem ggL_law_L_build_r2 : GoodIn wsL_law wsL_build_r2 := goodIn_r _ [120, 121, 122, 123, 124, 125, 126, 127, 128, 2, 129, 130, 131, 21, 132, 133, 134, 135, 136, 137, 138, 139, 140, 141] rfl (by decide +kernel)
set_option maxRecDepth 20000 in
theorem ggL_law_L_build_r3 : GoodIn wsL_law wsL_build_r3 := goodIn_r _ [142, 143, 20, 144, 28, 145, 146, 147, 148, 30, 40, 41, 42, 43, 35, 36, 37, 44, 45, 46, 47, 31, 32, 33] (by decide +kernel) (by decide +kernel)
set_option maxRecDepth 20000 in
theorem ggL_law_L_build_r4 : GoodIn wsL_law wsL_build_r4 := goodIn_r _ [34, 48, 49, 50, 51, 52, 53, 54, 55, 56, 39, 57, 58, 59, 60, 61, 62, 63, 64, 65, 66, 67, 68, 69] (by decide +kernel) (by decide +kernel)
set_option maxRecDepth 20000 in
theorem ggL_law_L_build_r5 : GoodIn wsL_law wsL_build_r5 := goodIn_r _ [70, 71, 72, 73, 74, 75, 76, 77, 78, 79, 80, 81, 82, 83, 84, 85, 86, 87, 88, 89, 90, 91, 6, 7] (by decide +kernel) (by decide +kernel)
set_option maxRecDepth 20000 in
theorem ggL_law_L_build_r6 : GoodIn wsL_law wsL_build_r6 := goodIn_r _ [8, 92, 93, 94, 95, 149, 150, 151, 152, 153, 154, 155, 156, 157, 158, 159, 160, 161, 162, 163, 164, 165, 166, 167] (by decide +kernel) (by decide +kernel)
set_option maxRecDepth 20000 in
theorem ggL_law_L_build_r7 : GoodIn wsL_law wsL_build_r7 := goodIn_r _ [168, 169, 170, 171, 172, 173, 174, 175, 176, 177, 178, 179, 180, 181, 182, 183, 184, 185, 186, 187, 188, 189, 190, 191] (by decide +kernel) (by decide +kernel)
set_option maxRecDepth 20000 in
theorem ggL_law_L_build_r8 : GoodIn wsL_law wsL_build_r8 := goodIn_r _ [192, 193, 194, 195, 196, 197, 198, 199, 200, 201, 202, 203, 204, 205, 206, 207, 208, 209, 210, 211, 27, 212, 213, 214] (by decide +kernel) (by decide +kernel)
set_option maxRecDepth 20000 in
theorem ggL_law_L_build_r9 : GoodIn wsL_law wsL_build_r9 := goodIn_r _ [215, 216, 217, 218, 219, 220, 221, 222, 29, 223, 224, 225, 226, 227, 228, 229, 230, 231, 232, 233, 234, 235, 236, 237] (by decide +kernel) (by decide +kernel)
set_option maxRecDepth 20000 in
theorem ggL_law_L_build_r10 : GoodIn wsL_law wsL_build_r10 := goodIn_r _ [238, 239, 240, 241, 242, 243, 244, 245, 246, 247, 248, 249, 250, 251, 252, 253, 254, 255, 256, 257, 258, 259, 260, 261] (by decide +kernel) (by decide +kernel)
set_option maxRecDepth 20000 in
theorem ggL_law_L_build_r11 : GoodIn wsL_law wsL_build_r11 := goodIn_r _ [262, 263] (by decide +kernel) (by decide +kernel)
set_option maxRecDepth 20000 in
theorem ggL_law_L_build_wsX20 : GoodIn wsL_law wsX20 := goodIn_r _ [374, 375, 376, 377] (by decide +kernel) (by decide +kernel)
set_option maxRecDepth 20000 in
theorem ggL_law_L_build_wsX10 : GoodIn wsL_law wsX10 := goodIn_r _ [359, 360] (by decide +kernel) (by decide +kernel)
set_option maxRecDepth 20000 in
theorem ggL_law_L_build_wsX00 : GoodIn wsL_law wsX00 := goodIn_r _ [361, 362, 363, 364, 365, 366, 367, 368, 369, 370, 371, 372, 373] (by decide +kernel) (by decide +kernel)
theorem ggL_law_L_build : GoodIn wsL_law wsL_build := goodIn_ca (goodIn_ca (goodIn_ca (goodIn_ca (goodIn_ca (goodIn_ca (goodIn_hd ggL_law_L_build_h (goodIn_app ggL_law_L_build_r1 (goodIn_app ggL_law_L_build_r2 (goodIn_app ggL_law_L_build_r3 (goodIn_app ggL_law_L_build_r4 (goodIn_app ggL_law_L_build_r5 (goodIn_app ggL_law_L_build_r6 (goodIn_app ggL_law_L_build_r7 (goodIn_app ggL_law_L_build_r8 (goodIn_app ggL_law_L_build_r9 (goodIn_app ggL_law_L_build_r10 ggL_law_L_build_r11))))))))))) ggL_law_L_build_wsX20) ggL_law_L_build_wsX10) ggL_law_L_build_wsX00) (goodIn_sub (fun _ h => List.mem_append_left _ (List.mem_append_left _ (List.mem_append_right _ h))) (by decide +kernel))) (goodIn_sub (fun _ h => List.mem_append_left _ (List.mem_append_right _ h)) (by decide +kernel))) (goodIn_sub (fun _ h => List.mem_append_right _ h) (by decide +kernel))
set_option maxRecDepth 20000 in
theorem gL_law_L_build : GoodIn wsL_law (va_wsS RL 75 yL_build wsL_build) := goodIn_app (goodIn_of _ (by decide +kernel)) ggL_law_L_build
set_option maxRecDepth 20000 in
theorem ggL_law_L_cell : GoodIn wsL_law wsL_cell := goodIn_r _ [113, 114] (by decide +kernel) (by decide +kernel)
set_option maxRecDepth 20000 in
theorem gL_law_L_cell : GoodIn wsL_law (va_wsS RL 58 yL_cell wsL_cell) := goodIn_app (goodIn_of _ (by decide +kernel)) ggL_law_L_cell
set_option maxRecDepth 20000 in
theorem ggL_law_L_act_h : GoodIn wsL_law [.codeWith yL_act cL_act 10 (some .boolean) [(185, 194, 197, 30), (277, 286, 289, 30), (387, 398, 401, 30), (506, 516, 519, 30), (622, 631, 634, 30)]] := goodIn_r _ [121] rfl (by decide +kernel)
set_option maxRecDepth 20000 in
theorem ggL_law_L_act_r1 : GoodIn wsL_law wsL_act_r1 := goodIn_r _ [122, 123, 124, 125, 115, 116, 98, 117, 118, 126, 127, 128, 2, 129, 130, 131, 21, 132, 133, 134, 135, 136, 137, 138] (by decide +kernel) (by decide +kernel)
set_option maxRecDepth 20000 in
theorem ggL_law_L_act_r2 : GoodIn wsL_law wsL_act_r2 := goodIn_r _ [139, 140, 141, 142, 143, 20, 144, 28, 145, 146, 147, 148, 30, 40, 41, 42, 43, 35, 36, 37, 44, 45, 46, 47] (by decide +kernel) (by decide +kernel)
set_option maxRecDepth 20000 in
theorem ggL_law_L_act_r3 : GoodIn wsL_law wsL_act_r3 := goodIn_r _ [31, 32, 33, 34, 48, 49, 50, 51, 52, 53, 54, 55, 56, 39, 57, 58, 59, 60, 61, 62, 63, 64, 65, 66] (by decide +kernel) (by decide +kernel)
set_option maxRecDepth 20000 in
theorem ggL_law_L_act_r4 : GoodIn wsL_law wsL_act_r4 := goodIn_r _ [67, 68, 69, 70, 71, 72, 73, 74, 75, 76, 77, 78, 79, 80, 81, 82, 83, 84, 85, 86, 87, 88, 89, 90] (by decide +kernel) (by decide +kernel)
set_option maxRecDepth 20000 in
theorem ggL_law_L_act_r5 : GoodIn wsL_law wsL_act_r5 := goodIn_r _ [91, 6, 7, 8, 92, 93, 94, 95, 149, 150, 151, 152, 153, 154, 155, 156, 157, 158, 159, 160, 161, 162, 163, 164] (by decide +kernel) (by decide +kernel)
set_option maxRecDepth 20000 in
theorem ggL_law_L_act_r6 : GoodIn wsL_law wsL_act_r6 := goodIn_r _ [165, 166, 167, 168, 169, 170, 171, 172, 173, 174, 175, 176, 177, 178, 179, 102, 180, 108, 4, 181, 182, 183, 184, 185] (by decide +kernel) (by decide +kernel)
set_option maxRecDepth 20000 in
theorem ggL_law_L_act_r7 : GoodIn wsL_law wsL_act_r7 := goodIn_r _ [186, 187, 188, 189, 190, 191, 109, 192, 193, 194, 195, 196, 197, 198, 199, 200] (by decide +kernel) (by decide +kernel)
set_option maxRecDepth 20000 in
theorem ggL_law_L_act_wsX20 : GoodIn wsL_law wsX20 := goodIn_r _ [374, 375, 376, 377] (by decide +kernel) (by decide +kernel)
set_option maxRecDepth 20000 in
theorem ggL_law_L_act_wsX10 : GoodIn wsL_law wsX10 := goodIn_r _ [359, 360] (by decide +kernel) (by decide +kernel)
set_option maxRecDepth 20000 in
theorem ggL_law_L_act_wsX00 : GoodIn wsL_law wsX00 := goodIn_r _ [361, 362, 363, 364, 365, 366, 367, 368, 369, 370, 371, 372, 373] (by decide +kernel) (by decide +kernel)
theorem ggL_law_L_act : GoodIn wsL_law wsL_act := goodIn_ca (goodIn_ca (goodIn_ca (goodIn_ca (goodIn_ca (goodIn_ca (goodIn_hd ggL_law_L_act_h (goodIn_app ggL_law_L_act_r1 (goodIn_app ggL_law_L_act_r2 (goodIn_app ggL_law_L_act_r3 (goodIn_app ggL_law_L_act_r4 (goodIn_app ggL_law_L_act_r5 (goodIn_app ggL_law_L_act_r6 ggL_law_L_act_r7))))))) ggL_law_L_act_wsX20) ggL_law_L_act_wsX10) ggL_law_L_act_wsX00) (goodIn_sub (fun _ h => List.mem_append_left _ (List.mem_append_left _ (List.mem_append_right _ h))) (by decide +kernel))) (goodIn_sub (fun _ h => List.mem_append_left _ (List.mem_append_right _ h)) (by decide +kernel))) (goodIn_sub (fun _ h => List.mem_append_right _ h) (by decide +kernel))
set_option maxRecDepth 20000 in
theorem gL_law_L_act : GoodIn wsL_law (va_wsS RL 63 yL_act wsL_act) := goodIn_app (goodIn_of _ (by decide +kernel)) ggL_law_L_act
set_option maxRecDepth 20000 in
theorem ggL_law_X1_lot : GoodIn wsL_law wsX1_lot := goodIn_ca (goodIn_r _ [267, 135, 136, 21, 132, 133, 2, 134, 268, 269, 270, 20, 271, 30, 31, 36, 37, 272, 174, 175, 176, 32, 57, 58, 75, 76, 77, 78, 51, 52, 59, 60, 79, 80, 81, 82, 35, 359, 360, 361, 362, 363, 364, 365, 366, 367, 368, 369, 370, 371, 372, 373] (by decide +kernel) (by decide +kernel)) (goodIn_sub (fun _ h => List.mem_append_left _ (List.mem_append_right _ h)) (by decide +kernel))
set_option maxRecDepth 20000 in
theorem gL_law_X1_lot : GoodIn wsL_law (wsV RL 79 RX1 yX1_lot wsX1_lot) := goodIn_app (goodIn_of _ (by decide +kernel)) ggL_law_X1_lot
set_option maxRecDepth 20000 in
theorem ggL_law_X1_walk : GoodIn wsL_law wsX1_walk := goodIn_ca (goodIn_ca (goodIn_r _ [276, 130, 131, 21, 277, 278, 2, 279, 135, 136, 280, 57, 58, 281, 51, 52, 282, 283, 284, 20, 285, 38, 48, 49, 50, 53, 54, 55, 56, 39, 30, 59, 60, 61, 62, 359, 360, 361, 362, 363, 364, 365, 366, 367, 368, 369, 370, 371, 372, 373] (by decide +kernel) (by decide +kernel)) (goodIn_sub (fun _ h => List.mem_append_left _ (List.mem_append_left _ (List.mem_append_right _ h))) (by decide +kernel))) (goodIn_sub (fun _ h => List.mem_append_left _ (List.mem_append_right _ h)) (by decide +kernel))
set_option maxRecDepth 20000 in
theorem gL_law_X1_walk : GoodIn wsL_law (wsV RL 87 RX1 yX1_walk wsX1_walk) := goodIn_app (goodIn_of _ (by decide +kernel)) ggL_law_X1_walk
set_option maxRecDepth 20000 in
theorem ggL_law_X1_sail : GoodIn wsL_law wsX1_sail := goodIn_ca (goodIn_ca (goodIn_r _ [289, 130, 131, 21, 277, 278, 2, 279, 135, 136, 280, 57, 58, 290, 61, 62, 359, 360, 361, 362, 363, 364, 365, 366, 367, 368, 369, 370, 371, 372, 373] (by decide +kernel) (by decide +kernel)) (goodIn_sub (fun _ h => List.mem_append_left _ (List.mem_append_left _ (List.mem_append_right _ h))) (by decide +kernel))) (goodIn_sub (fun _ h => List.mem_append_left _ (List.mem_append_right _ h)) (by decide +kernel))
set_option maxRecDepth 20000 in
theorem gL_law_X1_sail : GoodIn wsL_law (wsV RL 90 RX1 yX1_sail wsX1_sail) := goodIn_app (goodIn_of _ (by decide +kernel)) ggL_law_X1_sail
set_option maxRecDepth 20000 in
theorem ggL_law_X1_count : GoodIn wsL_law wsX1_count := goodIn_ca (goodIn_r _ [294, 135, 136, 21, 295, 296, 297, 20, 298, 27, 28, 29, 299, 300, 301, 302, 31, 303, 304, 305, 306, 36, 216, 217, 218, 212, 213, 214, 215, 37, 307, 308, 309, 310, 30, 359, 360, 361, 362, 363, 364, 365, 366, 367, 368, 369, 370, 371, 372, 373] (by decide +kernel) (by decide +kernel)) (goodIn_sub (fun _ h => List.mem_append_left _ (List.mem_append_right _ h)) (by decide +kernel))
set_option maxRecDepth 20000 in
theorem gL_law_X1_count : GoodIn wsL_law (wsV RL 96 RX1 yX1_count wsX1_count) := goodIn_app (goodIn_of _ (by decide +kernel)) ggL_law_X1_count
set_option maxRecDepth 20000 in
theorem ggL_law_X1_digest_h : GoodIn wsL_law [.code yX1_digest cX1_digest 5 (some .long)] := goodIn_r _ [314] (by decide +kernel) (by decide +kernel)
set_option maxRecDepth 20000 in
theorem ggL_law_X1_digest_r1 : GoodIn wsL_law wsX1_digest_r1 := goodIn_r _ [315, 316, 21, 295, 296, 297, 20, 298, 27, 28, 29, 299, 300, 301, 302, 31, 303, 304, 305, 306, 36, 216, 217, 218] (by decide +kernel) (by decide +kernel)
set_option maxRecDepth 20000 in
theorem ggL_law_X1_digest_r2 : GoodIn wsL_law wsX1_digest_r2 := goodIn_r _ [212, 213, 214, 215, 37, 307, 308, 309, 310, 30, 268, 269, 270, 271, 272, 174, 175, 176, 32, 57, 2, 58, 75, 76] (by decide +kernel) (by decide +kernel)
set_option maxRecDepth 20000 in
theorem ggL_law_X1_digest_r3 : GoodIn wsL_law wsX1_digest_r3 := goodIn_r _ [77, 78, 51, 52, 59, 60, 79, 80, 81, 82, 35] (by decide +kernel) (by decide +kernel)
set_option maxRecDepth 20000 in
theorem ggL_law_X1_digest_wsX10 : GoodIn wsL_law wsX10 := goodIn_r _ [359, 360] (by decide +kernel) (by decide +kernel)
set_option maxRecDepth 20000 in
theorem ggL_law_X1_digest_wsX00 : GoodIn wsL_law wsX00 := goodIn_r _ [361, 362, 363, 364, 365, 366, 367, 368, 369, 370, 371, 372, 373] (by decide +kernel) (by decide +kernel)
theorem ggL_law_X1_digest : GoodIn wsL_law wsX1_digest := (goodIn_ca (goodIn_ca (goodIn_hd ggL_law_X1_digest_h (goodIn_app ggL_law_X1_digest_r1 (goodIn_app ggL_law_X1_digest_r2 ggL_law_X1_digest_r3))) ggL_law_X1_digest_wsX10) ggL_law_X1_digest_wsX00)
set_option maxRecDepth 20000 in
theorem gL_law_X1_digest : GoodIn wsL_law (wsV RL 99 RX1 yX1_digest wsX1_digest) := goodIn_app (goodIn_of _ (by decide +kernel)) ggL_law_X1_digest
set_option maxRecDepth 20000 in
theorem ggL_law_X1_foresee_h : GoodIn wsL_law [.code yX1_foresee cX1_foresee 3 (some .int)] := goodIn_r _ [320] (by decide +kernel) (by decide +kernel)
set_option maxRecDepth 20000 in
theorem ggL_law_X1_foresee_r1 : GoodIn wsL_law wsX1_foresee_r1 := goodIn_r _ [135, 136, 22, 21, 205, 206, 2, 207, 160, 161, 321, 322, 323, 20, 324, 27, 28, 29, 30, 325, 41, 42, 43, 35] (by decide +kernel) (by decide +kernel)
set_option maxRecDepth 20000 in
theorem ggL_law_X1_foresee_r2 : GoodIn wsL_law wsX1_foresee_r2 := goodIn_r _ [36, 37, 44, 45, 46, 47, 31, 32, 33, 34, 48, 49, 50, 51, 52, 53, 54, 55, 56, 39, 57, 58, 59, 60] (by decide +kernel) (by decide +kernel)
set_option maxRecDepth 20000 in
theorem ggL_law_X1_foresee_r3 : GoodIn wsL_law wsX1_foresee_r3 := goodIn_r _ [61, 62, 63, 64, 65, 66, 67, 68, 69, 70, 71, 72, 73, 74, 75, 76, 77, 78, 79, 80, 81, 82, 83, 84] (by decide +kernel) (by decide +kernel)
set_option maxRecDepth 20000 in
theorem ggL_law_X1_foresee_r4 : GoodIn wsL_law wsX1_foresee_r4 := goodIn_r _ [85, 86, 87, 88, 89, 90, 91, 6, 7, 8, 92, 93, 94, 95, 208, 209, 210, 211, 212, 213, 214, 215, 216, 217] (by decide +kernel) (by decide +kernel)
set_option maxRecDepth 20000 in
theorem ggL_law_X1_foresee_r5 : GoodIn wsL_law wsX1_foresee_r5 := goodIn_r _ [218, 219, 220, 221, 222, 223, 224, 225, 226, 40, 295, 296, 297, 298, 299, 300, 301, 302, 303, 304, 305, 306, 307, 308] (by decide +kernel) (by decide +kernel)
set_option maxRecDepth 20000 in
theorem ggL_law_X1_foresee_r6 : GoodIn wsL_law wsX1_foresee_r6 := goodIn_r _ [309, 310] (by decide +kernel) (by decide +kernel)
set_option maxRecDepth 20000 in
theorem ggL_law_X1_foresee_wsX10 : GoodIn wsL_law wsX10 := goodIn_r _ [359, 360] (by decide +kernel) (by decide +kernel)
set_option maxRecDepth 20000 in
theorem ggL_law_X1_foresee_wsX00 : GoodIn wsL_law wsX00 := goodIn_r _ [361, 362, 363, 364, 365, 366, 367, 368, 369, 370, 371, 372, 373] (by decide +kernel) (by decide +kernel)
theorem ggL_law_X1_foresee : GoodIn wsL_law wsX1_foresee := goodIn_ca (goodIn_ca (goodIn_ca (goodIn_ca (goodIn_hd ggL_law_X1_foresee_h (goodIn_app ggL_law_X1_foresee_r1 (goodIn_app ggL_law_X1_foresee_r2 (goodIn_app ggL_law_X1_foresee_r3 (goodIn_app ggL_law_X1_foresee_r4 (goodIn_app ggL_law_X1_foresee_r5 ggL_law_X1_foresee_r6)))))) ggL_law_X1_foresee_wsX10) ggL_law_X1_foresee_wsX00) (goodIn_sub (fun _ h => List.mem_append_left _ (List.mem_append_right _ h)) (by decide +kernel))) (goodIn_sub (fun _ h => List.mem_append_right _ h) (by decide +kernel))
set_option maxRecDepth 20000 in
theorem gL_law_X1_foresee : GoodIn wsL_law (wsV RL 103 RX1 yX1_foresee wsX1_foresee) := goodIn_app (goodIn_of _ (by decide +kernel)) ggL_law_X1_foresee
set_option maxRecDepth 20000 in
theorem ggL_law_L_below : GoodIn wsL_law wsL_below := goodIn_r _ [117, 118] (by decide +kernel) (by decide +kernel)
set_option maxRecDepth 20000 in
theorem gL_law_L_below : GoodIn wsL_law (va_wsS RL 9 yL_below wsL_below) := goodIn_app (goodIn_of _ (by decide +kernel)) ggL_law_L_below
set_option maxRecDepth 20000 in
theorem ggL_law_X1_best_h : GoodIn wsL_law [.code yX1_best cX1_best 6 (some .int)] := goodIn_r _ [329] (by decide +kernel) (by decide +kernel)
set_option maxRecDepth 20000 in
theorem ggL_law_X1_best_r1 : GoodIn wsL_law wsX1_best_r1 := goodIn_r _ [21, 157, 158, 2, 159, 160, 161, 330, 331, 332, 333, 22, 321, 322, 323, 20, 324, 27, 28, 29, 30, 200, 146, 147] (by decide +kernel) (by decide +kernel)
set_option maxRecDepth 20000 in
theorem ggL_law_X1_best_r2 : GoodIn wsL_law wsX1_best_r2 := goodIn_r _ [148, 40, 41, 42, 43, 35, 36, 37, 44, 45, 46, 47, 31, 32, 33, 34, 48, 49, 50, 51, 52, 53, 54, 55] (by decide +kernel) (by decide +kernel)
set_option maxRecDepth 20000 in
theorem ggL_law_X1_best_r3 : GoodIn wsL_law wsX1_best_r3 := goodIn_r _ [56, 39, 57, 58, 59, 60, 61, 62, 63, 64, 65, 66, 67, 68, 69, 70, 71, 72, 73, 74, 75, 76, 77, 78] (by decide +kernel) (by decide +kernel)
set_option maxRecDepth 20000 in
theorem ggL_law_X1_best_r4 : GoodIn wsL_law wsX1_best_r4 := goodIn_r _ [79, 80, 81, 82, 83, 84, 85, 86, 87, 88, 89, 90, 91, 6, 7, 8, 92, 93, 94, 95, 334, 213, 214, 215] (by decide +kernel) (by decide +kernel)
set_option maxRecDepth 20000 in
theorem ggL_law_X1_best_r5 : GoodIn wsL_law wsX1_best_r5 := goodIn_r _ [216, 217, 218] (by decide +kernel) (by decide +kernel)
set_option maxRecDepth 20000 in
theorem ggL_law_X1_best_wsX10 : GoodIn wsL_law wsX10 := goodIn_r _ [359, 360] (by decide +kernel) (by decide +kernel)
set_option maxRecDepth 20000 in
theorem ggL_law_X1_best_wsX00 : GoodIn wsL_law wsX00 := goodIn_r _ [361, 362, 363, 364, 365, 366, 367, 368, 369, 370, 371, 372, 373] (by decide +kernel) (by decide +kernel)
theorem ggL_law_X1_best : GoodIn wsL_law wsX1_best := goodIn_ca (goodIn_ca (goodIn_ca (goodIn_hd ggL_law_X1_best_h (goodIn_app ggL_law_X1_best_r1 (goodIn_app ggL_law_X1_best_r2 (goodIn_app ggL_law_X1_best_r3 (goodIn_app ggL_law_X1_best_r4 ggL_law_X1_best_r5))))) ggL_law_X1_best_wsX10) ggL_law_X1_best_wsX00) (goodIn_sub (fun _ h => List.mem_append_right _ h) (by decide +kernel))
set_option maxRecDepth 20000 in
theorem gL_law_X1_best : GoodIn wsL_law (wsV RL 106 RX1 yX1_best wsX1_best) := goodIn_app (goodIn_of _ (by decide +kernel)) ggL_law_X1_best
set_option maxRecDepth 20000 in
theorem ggL_law_X1_would_h : GoodIn wsL_law [.code yX1_would cX1_would 5 (some .int)] := goodIn_r _ [338] (by decide +kernel) (by decide +kernel)
set_option maxRecDepth 20000 in
theorem ggL_law_X1_would_r1 : GoodIn wsL_law wsX1_would_r1 := goodIn_r _ [21, 132, 133, 2, 134, 135, 136, 157, 158, 159, 160, 161, 162, 163, 164, 165, 130, 131, 330, 331, 332, 333, 22, 321] (by decide +kernel) (by decide +kernel)
set_option maxRecDepth 20000 in
theorem ggL_law_X1_would_r2 : GoodIn wsL_law wsX1_would_r2 := goodIn_r _ [322, 323, 20, 324, 27, 28, 29, 30, 200, 146, 147, 148, 40, 41, 42, 43, 35, 36, 37, 44, 45, 46, 47, 31] (by decide +kernel) (by decide +kernel)
set_option maxRecDepth 20000 in
theorem ggL_law_X1_would_r3 : GoodIn wsL_law wsX1_would_r3 := goodIn_r _ [32, 33, 34, 48, 49, 50, 51, 52, 53, 54, 55, 56, 39, 57, 58, 59, 60, 61, 62, 63, 64, 65, 66, 67] (by decide +kernel) (by decide +kernel)
set_option maxRecDepth 20000 in
theorem ggL_law_X1_would_r4 : GoodIn wsL_law wsX1_would_r4 := goodIn_r _ [68, 69, 70, 71, 72, 73, 74, 75, 76, 77, 78, 79, 80, 81, 82, 83, 84, 85, 86, 87, 88, 89, 90, 91] (by decide +kernel) (by decide +kernel)
set_option maxRecDepth 20000 in
theorem ggL_law_X1_would_r5 : GoodIn wsL_law wsX1_would_r5 := goodIn_r _ [6, 7, 8, 92, 93, 94, 95, 334, 213, 214, 215, 216, 217, 218] (by decide +kernel) (by decide +kernel)
set_option maxRecDepth 20000 in
theorem ggL_law_X1_would_wsX10 : GoodIn wsL_law wsX10 := goodIn_r _ [359, 360] (by decide +kernel) (by decide +kernel)
set_option maxRecDepth 20000 in
theorem ggL_law_X1_would_wsX00 : GoodIn wsL_law wsX00 := goodIn_r _ [361, 362, 363, 364, 365, 366, 367, 368, 369, 370, 371, 372, 373] (by decide +kernel) (by decide +kernel)
theorem ggL_law_X1_would : GoodIn wsL_law wsX1_would := goodIn_ca (goodIn_ca (goodIn_ca (goodIn_ca (goodIn_ca (goodIn_hd ggL_law_X1_would_h (goodIn_app ggL_law_X1_would_r1 (goodIn_app ggL_law_X1_would_r2 (goodIn_app ggL_law_X1_would_r3 (goodIn_app ggL_law_X1_would_r4 ggL_law_X1_would_r5))))) ggL_law_X1_would_wsX10) ggL_law_X1_would_wsX00) (goodIn_sub (fun _ h => List.mem_append_left _ (List.mem_append_right _ h)) (by decide +kernel))) (goodIn_sub (fun _ h => List.mem_append_right _ h) (by decide +kernel))) (goodIn_sub (fun _ h => List.mem_append_left _ (List.mem_append_left _ (List.mem_append_right _ h))) (by decide +kernel))
set_option maxRecDepth 20000 in
theorem gL_law_X1_would : GoodIn wsL_law (wsV RL 109 RX1 yX1_would wsX1_would) := goodIn_app (goodIn_of _ (by decide +kernel)) ggL_law_X1_would
set_option maxRecDepth 20000 in
theorem ggL_law_X1_pass_h : GoodIn wsL_law [.code yX1_pass cX1_pass 2 (some .int)] := goodIn_r _ [204] (by decide +kernel) (by decide +kernel)
set_option maxRecDepth 20000 in
theorem ggL_law_X1_pass_r1 : GoodIn wsL_law wsX1_pass_r1 := goodIn_r _ [21, 205, 206, 2, 207, 160, 161, 208, 209, 210, 20, 211, 28, 27, 212, 213, 214, 215, 37, 216, 217, 218, 219, 220] (by decide +kernel) (by decide +kernel)
set_option maxRecDepth 20000 in
theorem ggL_law_X1_pass_r2 : GoodIn wsL_law wsX1_pass_r2 := goodIn_r _ [221, 222, 30, 36, 29, 223, 224, 225, 226, 39, 83, 84, 85, 86, 59, 60, 57, 58, 40, 41, 42, 43, 35, 44] (by decide +kernel) (by decide +kernel)
set_option maxRecDepth 20000 in
theorem ggL_law_X1_pass_r3 : GoodIn wsL_law wsX1_pass_r3 := goodIn_r _ [45, 46, 47, 31, 32, 33, 34, 48, 49, 50, 51, 52, 53, 54, 55, 56, 61, 62, 63, 64, 65, 66, 67, 68] (by decide +kernel) (by decide +kernel)
set_option maxRecDepth 20000 in
theorem ggL_law_X1_pass_r4 : GoodIn wsL_law wsX1_pass_r4 := goodIn_r _ [69, 70, 71, 72, 73, 74, 75, 76, 77, 78, 79, 80, 81, 82, 87, 88, 89, 90, 91, 6, 7, 8, 92, 93] (by decide +kernel) (by decide +kernel)
set_option maxRecDepth 20000 in
theorem ggL_law_X1_pass_r5 : GoodIn wsL_law wsX1_pass_r5 := goodIn_r _ [94, 95] (by decide +kernel) (by decide +kernel)
set_option maxRecDepth 20000 in
theorem ggL_law_X1_pass_wsX10 : GoodIn wsL_law wsX10 := goodIn_r _ [359, 360] (by decide +kernel) (by decide +kernel)
set_option maxRecDepth 20000 in
theorem ggL_law_X1_pass_wsX00 : GoodIn wsL_law wsX00 := goodIn_r _ [361, 362, 363, 364, 365, 366, 367, 368, 369, 370, 371, 372, 373] (by decide +kernel) (by decide +kernel)
theorem ggL_law_X1_pass : GoodIn wsL_law wsX1_pass := goodIn_ca (goodIn_ca (goodIn_ca (goodIn_hd ggL_law_X1_pass_h (goodIn_app ggL_law_X1_pass_r1 (goodIn_app ggL_law_X1_pass_r2 (goodIn_app ggL_law_X1_pass_r3 (goodIn_app ggL_law_X1_pass_r4 ggL_law_X1_pass_r5))))) ggL_law_X1_pass_wsX10) ggL_law_X1_pass_wsX00) (goodIn_sub (fun _ h => List.mem_append_right _ h) (by decide +kernel))
set_option maxRecDepth 20000 in
theorem gL_law_X1_pass : GoodIn wsL_law (wsV RL 67 RX1 yX1_pass wsX1_pass) := goodIn_app (goodIn_of _ (by decide +kernel)) ggL_law_X1_pass
set_option maxRecDepth 20000 in
theorem ggL_law_X2_pass : GoodIn wsL_law wsX2_pass := goodIn_r _ [230, 109, 231, 232, 233, 234, 110, 235, 178, 179, 102, 180, 108, 4, 181, 182, 7, 183, 184, 185, 186, 187, 188, 189, 190, 191, 236, 237, 238, 239, 240, 241, 242, 243, 244, 245, 246, 247, 248, 249, 250, 251, 252, 253, 254, 255, 256, 257, 258, 259, 193, 194, 195, 260, 261, 262, 263, 374, 375, 376, 377] (by decide +kernel) (by decide +kernel)
set_option maxRecDepth 20000 in
theorem gL_law_X2_pass : GoodIn wsL_law (wsV RL 71 RX2 yX2_pass wsX2_pass) := goodIn_app (goodIn_of _ (by decide +kernel)) ggL_law_X2_pass
set_option maxRecDepth 20000 in
theorem ggL_law_X2_isSame_h : GoodIn wsL_law [.code yX2_isSame cX2_isSame 10 (some .boolean)] := goodIn_r _ [342] (by decide +kernel) (by decide +kernel)
set_option maxRecDepth 20000 in
theorem ggL_law_X2_isSame_r1 : GoodIn wsL_law wsX2_isSame_r1 := goodIn_r _ [4, 109, 235, 178, 179, 102, 180, 108, 181, 182, 7, 183, 184, 185, 186, 187, 188, 189, 190, 191, 236, 237, 238, 239] (by decide +kernel) (by decide +kernel)
set_option maxRecDepth 20000 in
theorem ggL_law_X2_isSame_r2 : GoodIn wsL_law wsX2_isSame_r2 := goodIn_r _ [240, 241, 242, 243, 244, 245, 246, 247, 248, 249, 250, 251, 252, 253, 254, 255, 256, 257, 258, 259, 193, 194, 195, 260] (by decide +kernel) (by decide +kernel)
set_option maxRecDepth 20000 in
theorem ggL_law_X2_isSame_r3 : GoodIn wsL_law wsX2_isSame_r3 := goodIn_r _ [261, 262, 263, 343, 265, 266, 2, 267, 135, 136, 21, 132, 133, 134, 268, 269, 270, 20, 271, 30, 31, 36, 37, 272] (by decide +kernel) (by decide +kernel)
set_option maxRecDepth 20000 in
theorem ggL_law_X2_isSame_r4 : GoodIn wsL_law wsX2_isSame_r4 := goodIn_r _ [174, 175, 176, 32, 57, 58, 75, 76, 77, 78, 51, 52, 59, 60, 79, 80, 81, 82, 35, 344, 345, 346, 347, 234] (by decide +kernel) (by decide +kernel)
set_option maxRecDepth 20000 in
theorem ggL_law_X2_isSame_r5 : GoodIn wsL_law wsX2_isSame_r5 := goodIn_r _ [110, 231, 348, 349, 350, 351, 352, 292, 293, 294, 295, 296, 297, 298, 27, 28, 29, 299, 300, 301, 302, 303, 304, 305] (by decide +kernel) (by decide +kernel)
set_option maxRecDepth 20000 in
theorem ggL_law_X2_isSame_r6 : GoodIn wsL_law wsX2_isSame_r6 := goodIn_r _ [306, 216, 217, 218, 212, 213, 214, 215, 307, 308, 309, 310, 353, 354, 355, 356, 357, 358] (by decide +kernel) (by decide +kernel)
set_option maxRecDepth 20000 in
theorem ggL_law_X2_isSame_wsX20 : GoodIn wsL_law wsX20 := goodIn_r _ [374, 375, 376, 377] (by decide +kernel) (by decide +kernel)
set_option maxRecDepth 20000 in
theorem ggL_law_X2_isSame_wsX10 : GoodIn wsL_law wsX10 := goodIn_r _ [359, 360] (by decide +kernel) (by decide +kernel)
set_option maxRecDepth 20000 in
theorem ggL_law_X2_isSame_wsX00 : GoodIn wsL_law wsX00 := goodIn_r _ [361, 362, 363, 364, 365, 366, 367, 368, 369, 370, 371, 372, 373] (by decide +kernel) (by decide +kernel)
theorem ggL_law_X2_isSame : GoodIn wsL_law wsX2_isSame := goodIn_ca (goodIn_ca (goodIn_ca (goodIn_ca (goodIn_hd ggL_law_X2_isSame_h (goodIn_app ggL_law_X2_isSame_r1 (goodIn_app ggL_law_X2_isSame_r2 (goodIn_app ggL_law_X2_isSame_r3 (goodIn_app ggL_law_X2_isSame_r4 (goodIn_app ggL_law_X2_isSame_r5 ggL_law_X2_isSame_r6)))))) ggL_law_X2_isSame_wsX20) ggL_law_X2_isSame_wsX10) ggL_law_X2_isSame_wsX00) (goodIn_sub (fun _ h => List.mem_append_left _ (List.mem_append_right _ h)) (by decide +kernel))
set_option maxRecDepth 20000 in
theorem gL_law_X2_isSame : GoodIn wsL_law (wsV RL 112 RX2 yX2_isSame wsX2_isSame) := goodIn_app (goodIn_of _ (by decide +kernel)) ggL_law_X2_isSame

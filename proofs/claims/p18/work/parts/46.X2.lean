theorem dX2_init_0 : decode cX2_init 0 = .ok (.aload_n 0, 1) := by decide +kernel
theorem dX2_init_1 : decode cX2_init 1 = .ok (.invokespecial 1, 3) := by decide +kernel
theorem dX2_init_4 : decode cX2_init 4 = .ok (.aload_n 0, 1) := by decide +kernel
theorem dX2_init_5 : decode cX2_init 5 = .ok (.bipush 8, 2) := by decide +kernel
theorem dX2_init_7 : decode cX2_init 7 = .ok (.bipush 8, 2) := by decide +kernel
theorem dX2_init_9 : decode cX2_init 9 = .ok (.multianewarray 7 2, 4) := by decide +kernel
theorem dX2_init_13 : decode cX2_init 13 = .ok (.putfield 9, 3) := by decide +kernel
theorem dX2_init_16 : decode cX2_init 16 = .ok (.aload_n 0, 1) := by decide +kernel
theorem dX2_init_17 : decode cX2_init 17 = .ok (.bipush 60, 2) := by decide +kernel
theorem dX2_init_19 : decode cX2_init 19 = .ok (.putfield 14, 3) := by decide +kernel
theorem dX2_init_22 : decode cX2_init 22 = .ok (.iconst 0, 1) := by decide +kernel
theorem dX2_init_23 : decode cX2_init 23 = .ok (.istore_n 1, 1) := by decide +kernel
theorem dX2_init_24 : decode cX2_init 24 = .ok (.iload_n 1, 1) := by decide +kernel
theorem dX2_init_25 : decode cX2_init 25 = .ok (.bipush 8, 2) := by decide +kernel
theorem dX2_init_27 : decode cX2_init 27 = .ok (.if_icmp .ge 18, 3) := by decide +kernel
theorem dX2_init_30 : decode cX2_init 30 = .ok (.aload_n 0, 1) := by decide +kernel
theorem dX2_init_31 : decode cX2_init 31 = .ok (.getfield 9, 3) := by decide +kernel
theorem dX2_init_34 : decode cX2_init 34 = .ok (.iconst 3, 1) := by decide +kernel
theorem dX2_init_35 : decode cX2_init 35 = .ok (.aaload, 1) := by decide +kernel
theorem dX2_init_36 : decode cX2_init 36 = .ok (.iload_n 1, 1) := by decide +kernel
theorem dX2_init_37 : decode cX2_init 37 = .ok (.iconst 1, 1) := by decide +kernel
theorem dX2_init_38 : decode cX2_init 38 = .ok (.iastore, 1) := by decide +kernel
theorem dX2_init_39 : decode cX2_init 39 = .ok (.iinc 1 1, 3) := by decide +kernel
theorem dX2_init_42 : decode cX2_init 42 = .ok (.goto (-18), 3) := by decide +kernel
theorem dX2_init_45 : decode cX2_init 45 = .ok (.return_, 1) := by decide +kernel
theorem dX2_at_0 : decode cX2_at 0 = .ok (.iload_n 1, 1) := by decide +kernel
theorem dX2_at_1 : decode cX2_at 1 = .ok (.ifCond .lt 19, 3) := by decide +kernel
theorem dX2_at_4 : decode cX2_at 4 = .ok (.iload_n 1, 1) := by decide +kernel
theorem dX2_at_5 : decode cX2_at 5 = .ok (.bipush 7, 2) := by decide +kernel
theorem dX2_at_7 : decode cX2_at 7 = .ok (.if_icmp .gt 13, 3) := by decide +kernel
theorem dX2_at_10 : decode cX2_at 10 = .ok (.iload_n 2, 1) := by decide +kernel
theorem dX2_at_11 : decode cX2_at 11 = .ok (.ifCond .lt 9, 3) := by decide +kernel
theorem dX2_at_14 : decode cX2_at 14 = .ok (.iload_n 2, 1) := by decide +kernel
theorem dX2_at_15 : decode cX2_at 15 = .ok (.bipush 7, 2) := by decide +kernel
theorem dX2_at_17 : decode cX2_at 17 = .ok (.if_icmp .le 7, 3) := by decide +kernel
theorem dX2_at_20 : decode cX2_at 20 = .ok (.iconst (-1), 1) := by decide +kernel
theorem dX2_at_21 : decode cX2_at 21 = .ok (.goto 11, 3) := by decide +kernel
theorem dX2_at_24 : decode cX2_at 24 = .ok (.aload_n 0, 1) := by decide +kernel
theorem dX2_at_25 : decode cX2_at 25 = .ok (.getfield 9, 3) := by decide +kernel
theorem dX2_at_28 : decode cX2_at 28 = .ok (.iload_n 1, 1) := by decide +kernel
theorem dX2_at_29 : decode cX2_at 29 = .ok (.aaload, 1) := by decide +kernel
theorem dX2_at_30 : decode cX2_at 30 = .ok (.iload_n 2, 1) := by decide +kernel
theorem dX2_at_31 : decode cX2_at 31 = .ok (.iaload, 1) := by decide +kernel
theorem dX2_at_32 : decode cX2_at 32 = .ok (.ireturn, 1) := by decide +kernel
set_option maxRecDepth 20000 in
theorem ggX2_isLand_X2_at : GoodIn wsX2_isLand wsX2_at := goodIn_r _ [5, 6, 7, 8, 9, 10] (by decide +kernel) (by decide +kernel)
set_option maxRecDepth 20000 in
theorem gX2_isLand_X2_at : GoodIn wsX2_isLand (wsV RX2 31 RX2 yX2_at wsX2_at) := goodIn_app (goodIn_of _ (by decide +kernel)) ggX2_isLand_X2_at
theorem dX2_isLand_0 : decode cX2_isLand 0 = .ok (.aload_n 0, 1) := by decide +kernel
theorem dX2_isLand_1 : decode cX2_isLand 1 = .ok (.iload_n 1, 1) := by decide +kernel
theorem dX2_isLand_2 : decode cX2_isLand 2 = .ok (.iload_n 2, 1) := by decide +kernel
theorem dX2_isLand_3 : decode cX2_isLand 3 = .ok (.invokevirtual 31, 3) := by decide +kernel
theorem dX2_isLand_6 : decode cX2_isLand 6 = .ok (.iconst 1, 1) := by decide +kernel
theorem dX2_isLand_7 : decode cX2_isLand 7 = .ok (.if_icmp .le 7, 3) := by decide +kernel
theorem dX2_isLand_10 : decode cX2_isLand 10 = .ok (.iconst 1, 1) := by decide +kernel
theorem dX2_isLand_11 : decode cX2_isLand 11 = .ok (.goto 4, 3) := by decide +kernel
theorem dX2_isLand_14 : decode cX2_isLand 14 = .ok (.iconst 0, 1) := by decide +kernel
theorem dX2_isLand_15 : decode cX2_isLand 15 = .ok (.ireturn, 1) := by decide +kernel
set_option maxRecDepth 20000 in
theorem ggX2_isWater_X2_at : GoodIn wsX2_isWater wsX2_at := goodIn_r _ [5, 6, 7, 8, 9, 10] (by decide +kernel) (by decide +kernel)
set_option maxRecDepth 20000 in
theorem gX2_isWater_X2_at : GoodIn wsX2_isWater (wsV RX2 31 RX2 yX2_at wsX2_at) := goodIn_app (goodIn_of _ (by decide +kernel)) ggX2_isWater_X2_at
theorem dX2_isWater_0 : decode cX2_isWater 0 = .ok (.aload_n 0, 1) := by decide +kernel
theorem dX2_isWater_1 : decode cX2_isWater 1 = .ok (.iload_n 1, 1) := by decide +kernel
theorem dX2_isWater_2 : decode cX2_isWater 2 = .ok (.iload_n 2, 1) := by decide +kernel
theorem dX2_isWater_3 : decode cX2_isWater 3 = .ok (.invokevirtual 31, 3) := by decide +kernel
theorem dX2_isWater_6 : decode cX2_isWater 6 = .ok (.iconst 1, 1) := by decide +kernel
theorem dX2_isWater_7 : decode cX2_isWater 7 = .ok (.if_icmp .eq 14, 3) := by decide +kernel
theorem dX2_isWater_10 : decode cX2_isWater 10 = .ok (.aload_n 0, 1) := by decide +kernel
theorem dX2_isWater_11 : decode cX2_isWater 11 = .ok (.iload_n 1, 1) := by decide +kernel
theorem dX2_isWater_12 : decode cX2_isWater 12 = .ok (.iload_n 2, 1) := by decide +kernel
theorem dX2_isWater_13 : decode cX2_isWater 13 = .ok (.invokevirtual 31, 3) := by decide +kernel
theorem dX2_isWater_16 : decode cX2_isWater 16 = .ok (.bipush 6, 2) := by decide +kernel
theorem dX2_isWater_18 : decode cX2_isWater 18 = .ok (.if_icmp .ne 7, 3) := by decide +kernel
theorem dX2_isWater_21 : decode cX2_isWater 21 = .ok (.iconst 1, 1) := by decide +kernel
theorem dX2_isWater_22 : decode cX2_isWater 22 = .ok (.goto 4, 3) := by decide +kernel
theorem dX2_isWater_25 : decode cX2_isWater 25 = .ok (.iconst 0, 1) := by decide +kernel
theorem dX2_isWater_26 : decode cX2_isWater 26 = .ok (.ireturn, 1) := by decide +kernel
set_option maxRecDepth 20000 in
theorem ggX2_quarters_X2_isLand : GoodIn wsX2_quarters wsX2_isLand := goodIn_r _ [11, 12, 13, 14, 10, 15, 16, 17, 18, 19, 20] (by decide +kernel) (by decide +kernel)
set_option maxRecDepth 20000 in
theorem gX2_quarters_X2_isLand : GoodIn wsX2_quarters (wsV RX2 35 RX2 yX2_isLand wsX2_isLand) := goodIn_app (goodIn_of _ (by decide +kernel)) ggX2_quarters_X2_isLand
theorem dX2_quarters_0 : decode cX2_quarters 0 = .ok (.bipush 8, 2) := by decide +kernel
theorem dX2_quarters_2 : decode cX2_quarters 2 = .ok (.bipush 8, 2) := by decide +kernel
theorem dX2_quarters_4 : decode cX2_quarters 4 = .ok (.multianewarray 7 2, 4) := by decide +kernel
theorem dX2_quarters_8 : decode cX2_quarters 8 = .ok (.astore_n 1, 1) := by decide +kernel
theorem dX2_quarters_9 : decode cX2_quarters 9 = .ok (.iconst 0, 1) := by decide +kernel
theorem dX2_quarters_10 : decode cX2_quarters 10 = .ok (.istore_n 2, 1) := by decide +kernel
theorem dX2_quarters_11 : decode cX2_quarters 11 = .ok (.iload_n 2, 1) := by decide +kernel
theorem dX2_quarters_12 : decode cX2_quarters 12 = .ok (.bipush 8, 2) := by decide +kernel
theorem dX2_quarters_14 : decode cX2_quarters 14 = .ok (.if_icmp .ge 47, 3) := by decide +kernel
theorem dX2_quarters_17 : decode cX2_quarters 17 = .ok (.iconst 0, 1) := by decide +kernel
theorem dX2_quarters_18 : decode cX2_quarters 18 = .ok (.istore_n 3, 1) := by decide +kernel
theorem dX2_quarters_19 : decode cX2_quarters 19 = .ok (.iload_n 3, 1) := by decide +kernel
theorem dX2_quarters_20 : decode cX2_quarters 20 = .ok (.bipush 8, 2) := by decide +kernel
theorem dX2_quarters_22 : decode cX2_quarters 22 = .ok (.if_icmp .ge 33, 3) := by decide +kernel
theorem dX2_quarters_25 : decode cX2_quarters 25 = .ok (.aload_n 1, 1) := by decide +kernel
theorem dX2_quarters_26 : decode cX2_quarters 26 = .ok (.iload_n 2, 1) := by decide +kernel
theorem dX2_quarters_27 : decode cX2_quarters 27 = .ok (.aaload, 1) := by decide +kernel
theorem dX2_quarters_28 : decode cX2_quarters 28 = .ok (.iload_n 3, 1) := by decide +kernel
theorem dX2_quarters_29 : decode cX2_quarters 29 = .ok (.aload_n 0, 1) := by decide +kernel
theorem dX2_quarters_30 : decode cX2_quarters 30 = .ok (.iload_n 2, 1) := by decide +kernel
theorem dX2_quarters_31 : decode cX2_quarters 31 = .ok (.iload_n 3, 1) := by decide +kernel
theorem dX2_quarters_32 : decode cX2_quarters 32 = .ok (.invokevirtual 35, 3) := by decide +kernel
theorem dX2_quarters_35 : decode cX2_quarters 35 = .ok (.ifCond .eq 12, 3) := by decide +kernel
theorem dX2_quarters_38 : decode cX2_quarters 38 = .ok (.bipush 8, 2) := by decide +kernel
theorem dX2_quarters_40 : decode cX2_quarters 40 = .ok (.iload_n 3, 1) := by decide +kernel
theorem dX2_quarters_41 : decode cX2_quarters 41 = .ok (.imul, 1) := by decide +kernel
theorem dX2_quarters_42 : decode cX2_quarters 42 = .ok (.iload_n 2, 1) := by decide +kernel
theorem dX2_quarters_43 : decode cX2_quarters 43 = .ok (.iadd, 1) := by decide +kernel
theorem dX2_quarters_44 : decode cX2_quarters 44 = .ok (.goto 4, 3) := by decide +kernel
theorem dX2_quarters_47 : decode cX2_quarters 47 = .ok (.iconst (-1), 1) := by decide +kernel
theorem dX2_quarters_48 : decode cX2_quarters 48 = .ok (.iastore, 1) := by decide +kernel
theorem dX2_quarters_49 : decode cX2_quarters 49 = .ok (.iinc 3 1, 3) := by decide +kernel
theorem dX2_quarters_52 : decode cX2_quarters 52 = .ok (.goto (-33), 3) := by decide +kernel
theorem dX2_quarters_55 : decode cX2_quarters 55 = .ok (.iinc 2 1, 3) := by decide +kernel
theorem dX2_quarters_58 : decode cX2_quarters 58 = .ok (.goto (-47), 3) := by decide +kernel
theorem dX2_quarters_61 : decode cX2_quarters 61 = .ok (.iconst 1, 1) := by decide +kernel
theorem dX2_quarters_62 : decode cX2_quarters 62 = .ok (.istore_n 2, 1) := by decide +kernel
theorem dX2_quarters_63 : decode cX2_quarters 63 = .ok (.iload_n 2, 1) := by decide +kernel
theorem dX2_quarters_64 : decode cX2_quarters 64 = .ok (.ifCond .eq 193, 3) := by decide +kernel
theorem dX2_quarters_67 : decode cX2_quarters 67 = .ok (.iconst 0, 1) := by decide +kernel
theorem dX2_quarters_68 : decode cX2_quarters 68 = .ok (.istore_n 2, 1) := by decide +kernel
theorem dX2_quarters_69 : decode cX2_quarters 69 = .ok (.iconst 0, 1) := by decide +kernel
theorem dX2_quarters_70 : decode cX2_quarters 70 = .ok (.istore_n 3, 1) := by decide +kernel
theorem dX2_quarters_71 : decode cX2_quarters 71 = .ok (.iload_n 3, 1) := by decide +kernel
theorem dX2_quarters_72 : decode cX2_quarters 72 = .ok (.bipush 8, 2) := by decide +kernel
theorem dX2_quarters_74 : decode cX2_quarters 74 = .ok (.if_icmp .ge 180, 3) := by decide +kernel
theorem dX2_quarters_77 : decode cX2_quarters 77 = .ok (.iconst 0, 1) := by decide +kernel
theorem dX2_quarters_78 : decode cX2_quarters 78 = .ok (.istore 4, 2) := by decide +kernel
theorem dX2_quarters_80 : decode cX2_quarters 80 = .ok (.iload 4, 2) := by decide +kernel
theorem dX2_quarters_82 : decode cX2_quarters 82 = .ok (.bipush 8, 2) := by decide +kernel
theorem dX2_quarters_84 : decode cX2_quarters 84 = .ok (.if_icmp .ge 164, 3) := by decide +kernel
theorem dX2_quarters_87 : decode cX2_quarters 87 = .ok (.aload_n 1, 1) := by decide +kernel
theorem dX2_quarters_88 : decode cX2_quarters 88 = .ok (.iload_n 3, 1) := by decide +kernel
theorem dX2_quarters_89 : decode cX2_quarters 89 = .ok (.aaload, 1) := by decide +kernel
theorem dX2_quarters_90 : decode cX2_quarters 90 = .ok (.iload 4, 2) := by decide +kernel
theorem dX2_quarters_92 : decode cX2_quarters 92 = .ok (.iaload, 1) := by decide +kernel
theorem dX2_quarters_93 : decode cX2_quarters 93 = .ok (.ifCond .ge 6, 3) := by decide +kernel
theorem dX2_quarters_96 : decode cX2_quarters 96 = .ok (.goto 146, 3) := by decide +kernel
theorem dX2_quarters_99 : decode cX2_quarters 99 = .ok (.aload_n 1, 1) := by decide +kernel
theorem dX2_quarters_100 : decode cX2_quarters 100 = .ok (.iload_n 3, 1) := by decide +kernel
theorem dX2_quarters_101 : decode cX2_quarters 101 = .ok (.aaload, 1) := by decide +kernel
theorem dX2_quarters_102 : decode cX2_quarters 102 = .ok (.iload 4, 2) := by decide +kernel
theorem dX2_quarters_104 : decode cX2_quarters 104 = .ok (.iaload, 1) := by decide +kernel
theorem dX2_quarters_105 : decode cX2_quarters 105 = .ok (.istore 5, 2) := by decide +kernel
theorem dX2_quarters_107 : decode cX2_quarters 107 = .ok (.aload_n 0, 1) := by decide +kernel
theorem dX2_quarters_108 : decode cX2_quarters 108 = .ok (.iload_n 3, 1) := by decide +kernel
theorem dX2_quarters_109 : decode cX2_quarters 109 = .ok (.iconst 1, 1) := by decide +kernel
theorem dX2_quarters_110 : decode cX2_quarters 110 = .ok (.isub, 1) := by decide +kernel
theorem dX2_quarters_111 : decode cX2_quarters 111 = .ok (.iload 4, 2) := by decide +kernel
theorem dX2_quarters_113 : decode cX2_quarters 113 = .ok (.invokevirtual 35, 3) := by decide +kernel
theorem dX2_quarters_116 : decode cX2_quarters 116 = .ok (.ifCond .eq 18, 3) := by decide +kernel
theorem dX2_quarters_119 : decode cX2_quarters 119 = .ok (.iload 5, 2) := by decide +kernel
theorem dX2_quarters_121 : decode cX2_quarters 121 = .ok (.aload_n 1, 1) := by decide +kernel
theorem dX2_quarters_122 : decode cX2_quarters 122 = .ok (.iload_n 3, 1) := by decide +kernel
theorem dX2_quarters_123 : decode cX2_quarters 123 = .ok (.iconst 1, 1) := by decide +kernel
theorem dX2_quarters_124 : decode cX2_quarters 124 = .ok (.isub, 1) := by decide +kernel
theorem dX2_quarters_125 : decode cX2_quarters 125 = .ok (.aaload, 1) := by decide +kernel
theorem dX2_quarters_126 : decode cX2_quarters 126 = .ok (.iload 4, 2) := by decide +kernel
theorem dX2_quarters_128 : decode cX2_quarters 128 = .ok (.iaload, 1) := by decide +kernel
theorem dX2_quarters_129 : decode cX2_quarters 129 = .ok (.invokestatic 39, 3) := by decide +kernel
theorem dX2_quarters_132 : decode cX2_quarters 132 = .ok (.istore 5, 2) := by decide +kernel
theorem dX2_quarters_134 : decode cX2_quarters 134 = .ok (.aload_n 0, 1) := by decide +kernel
theorem dX2_quarters_135 : decode cX2_quarters 135 = .ok (.iload_n 3, 1) := by decide +kernel
theorem dX2_quarters_136 : decode cX2_quarters 136 = .ok (.iconst 1, 1) := by decide +kernel
theorem dX2_quarters_137 : decode cX2_quarters 137 = .ok (.iadd, 1) := by decide +kernel
theorem dX2_quarters_138 : decode cX2_quarters 138 = .ok (.iload 4, 2) := by decide +kernel
theorem dX2_quarters_140 : decode cX2_quarters 140 = .ok (.invokevirtual 35, 3) := by decide +kernel
theorem dX2_quarters_143 : decode cX2_quarters 143 = .ok (.ifCond .eq 18, 3) := by decide +kernel
theorem dX2_quarters_146 : decode cX2_quarters 146 = .ok (.iload 5, 2) := by decide +kernel
theorem dX2_quarters_148 : decode cX2_quarters 148 = .ok (.aload_n 1, 1) := by decide +kernel
theorem dX2_quarters_149 : decode cX2_quarters 149 = .ok (.iload_n 3, 1) := by decide +kernel
theorem dX2_quarters_150 : decode cX2_quarters 150 = .ok (.iconst 1, 1) := by decide +kernel
theorem dX2_quarters_151 : decode cX2_quarters 151 = .ok (.iadd, 1) := by decide +kernel
theorem dX2_quarters_152 : decode cX2_quarters 152 = .ok (.aaload, 1) := by decide +kernel
theorem dX2_quarters_153 : decode cX2_quarters 153 = .ok (.iload 4, 2) := by decide +kernel
theorem dX2_quarters_155 : decode cX2_quarters 155 = .ok (.iaload, 1) := by decide +kernel
theorem dX2_quarters_156 : decode cX2_quarters 156 = .ok (.invokestatic 39, 3) := by decide +kernel
theorem dX2_quarters_159 : decode cX2_quarters 159 = .ok (.istore 5, 2) := by decide +kernel
theorem dX2_quarters_161 : decode cX2_quarters 161 = .ok (.aload_n 0, 1) := by decide +kernel
theorem dX2_quarters_162 : decode cX2_quarters 162 = .ok (.iload_n 3, 1) := by decide +kernel
theorem dX2_quarters_163 : decode cX2_quarters 163 = .ok (.iload 4, 2) := by decide +kernel
theorem dX2_quarters_165 : decode cX2_quarters 165 = .ok (.iconst 1, 1) := by decide +kernel
theorem dX2_quarters_166 : decode cX2_quarters 166 = .ok (.isub, 1) := by decide +kernel
theorem dX2_quarters_167 : decode cX2_quarters 167 = .ok (.invokevirtual 35, 3) := by decide +kernel
theorem dX2_quarters_170 : decode cX2_quarters 170 = .ok (.ifCond .eq 18, 3) := by decide +kernel
theorem dX2_quarters_173 : decode cX2_quarters 173 = .ok (.iload 5, 2) := by decide +kernel
theorem dX2_quarters_175 : decode cX2_quarters 175 = .ok (.aload_n 1, 1) := by decide +kernel
theorem dX2_quarters_176 : decode cX2_quarters 176 = .ok (.iload_n 3, 1) := by decide +kernel
theorem dX2_quarters_177 : decode cX2_quarters 177 = .ok (.aaload, 1) := by decide +kernel
theorem dX2_quarters_178 : decode cX2_quarters 178 = .ok (.iload 4, 2) := by decide +kernel
theorem dX2_quarters_180 : decode cX2_quarters 180 = .ok (.iconst 1, 1) := by decide +kernel
theorem dX2_quarters_181 : decode cX2_quarters 181 = .ok (.isub, 1) := by decide +kernel
theorem dX2_quarters_182 : decode cX2_quarters 182 = .ok (.iaload, 1) := by decide +kernel
theorem dX2_quarters_183 : decode cX2_quarters 183 = .ok (.invokestatic 39, 3) := by decide +kernel
theorem dX2_quarters_186 : decode cX2_quarters 186 = .ok (.istore 5, 2) := by decide +kernel
theorem dX2_quarters_188 : decode cX2_quarters 188 = .ok (.aload_n 0, 1) := by decide +kernel
theorem dX2_quarters_189 : decode cX2_quarters 189 = .ok (.iload_n 3, 1) := by decide +kernel
theorem dX2_quarters_190 : decode cX2_quarters 190 = .ok (.iload 4, 2) := by decide +kernel
theorem dX2_quarters_192 : decode cX2_quarters 192 = .ok (.iconst 1, 1) := by decide +kernel
theorem dX2_quarters_193 : decode cX2_quarters 193 = .ok (.iadd, 1) := by decide +kernel
theorem dX2_quarters_194 : decode cX2_quarters 194 = .ok (.invokevirtual 35, 3) := by decide +kernel
theorem dX2_quarters_197 : decode cX2_quarters 197 = .ok (.ifCond .eq 18, 3) := by decide +kernel
theorem dX2_quarters_200 : decode cX2_quarters 200 = .ok (.iload 5, 2) := by decide +kernel
theorem dX2_quarters_202 : decode cX2_quarters 202 = .ok (.aload_n 1, 1) := by decide +kernel
theorem dX2_quarters_203 : decode cX2_quarters 203 = .ok (.iload_n 3, 1) := by decide +kernel
theorem dX2_quarters_204 : decode cX2_quarters 204 = .ok (.aaload, 1) := by decide +kernel
theorem dX2_quarters_205 : decode cX2_quarters 205 = .ok (.iload 4, 2) := by decide +kernel
theorem dX2_quarters_207 : decode cX2_quarters 207 = .ok (.iconst 1, 1) := by decide +kernel
theorem dX2_quarters_208 : decode cX2_quarters 208 = .ok (.iadd, 1) := by decide +kernel
theorem dX2_quarters_209 : decode cX2_quarters 209 = .ok (.iaload, 1) := by decide +kernel
theorem dX2_quarters_210 : decode cX2_quarters 210 = .ok (.invokestatic 39, 3) := by decide +kernel
theorem dX2_quarters_213 : decode cX2_quarters 213 = .ok (.istore 5, 2) := by decide +kernel
theorem dX2_quarters_215 : decode cX2_quarters 215 = .ok (.iload_n 2, 1) := by decide +kernel
theorem dX2_quarters_216 : decode cX2_quarters 216 = .ok (.iload 5, 2) := by decide +kernel
theorem dX2_quarters_218 : decode cX2_quarters 218 = .ok (.aload_n 1, 1) := by decide +kernel
theorem dX2_quarters_219 : decode cX2_quarters 219 = .ok (.iload_n 3, 1) := by decide +kernel
theorem dX2_quarters_220 : decode cX2_quarters 220 = .ok (.aaload, 1) := by decide +kernel
theorem dX2_quarters_221 : decode cX2_quarters 221 = .ok (.iload 4, 2) := by decide +kernel
theorem dX2_quarters_223 : decode cX2_quarters 223 = .ok (.iaload, 1) := by decide +kernel
theorem dX2_quarters_224 : decode cX2_quarters 224 = .ok (.if_icmp .ge 7, 3) := by decide +kernel
theorem dX2_quarters_227 : decode cX2_quarters 227 = .ok (.iconst 1, 1) := by decide +kernel
theorem dX2_quarters_228 : decode cX2_quarters 228 = .ok (.goto 4, 3) := by decide +kernel
theorem dX2_quarters_231 : decode cX2_quarters 231 = .ok (.iconst 0, 1) := by decide +kernel
theorem dX2_quarters_232 : decode cX2_quarters 232 = .ok (.ior, 1) := by decide +kernel
theorem dX2_quarters_233 : decode cX2_quarters 233 = .ok (.istore_n 2, 1) := by decide +kernel
theorem dX2_quarters_234 : decode cX2_quarters 234 = .ok (.aload_n 1, 1) := by decide +kernel
theorem dX2_quarters_235 : decode cX2_quarters 235 = .ok (.iload_n 3, 1) := by decide +kernel
theorem dX2_quarters_236 : decode cX2_quarters 236 = .ok (.aaload, 1) := by decide +kernel
theorem dX2_quarters_237 : decode cX2_quarters 237 = .ok (.iload 4, 2) := by decide +kernel
theorem dX2_quarters_239 : decode cX2_quarters 239 = .ok (.iload 5, 2) := by decide +kernel
theorem dX2_quarters_241 : decode cX2_quarters 241 = .ok (.iastore, 1) := by decide +kernel
theorem dX2_quarters_242 : decode cX2_quarters 242 = .ok (.iinc 4 1, 3) := by decide +kernel
theorem dX2_quarters_245 : decode cX2_quarters 245 = .ok (.goto (-165), 3) := by decide +kernel
theorem dX2_quarters_248 : decode cX2_quarters 248 = .ok (.iinc 3 1, 3) := by decide +kernel
theorem dX2_quarters_251 : decode cX2_quarters 251 = .ok (.goto (-180), 3) := by decide +kernel
theorem dX2_quarters_254 : decode cX2_quarters 254 = .ok (.goto (-191), 3) := by decide +kernel
theorem dX2_quarters_257 : decode cX2_quarters 257 = .ok (.aload_n 1, 1) := by decide +kernel
theorem dX2_quarters_258 : decode cX2_quarters 258 = .ok (.areturn, 1) := by decide +kernel
theorem dX2_near_0 : decode cX2_near 0 = .ok (.iload_n 1, 1) := by decide +kernel
theorem dX2_near_1 : decode cX2_near 1 = .ok (.ifCond .lt 19, 3) := by decide +kernel
theorem dX2_near_4 : decode cX2_near 4 = .ok (.iload_n 1, 1) := by decide +kernel
theorem dX2_near_5 : decode cX2_near 5 = .ok (.bipush 7, 2) := by decide +kernel
theorem dX2_near_7 : decode cX2_near 7 = .ok (.if_icmp .gt 13, 3) := by decide +kernel
theorem dX2_near_10 : decode cX2_near 10 = .ok (.iload_n 2, 1) := by decide +kernel
theorem dX2_near_11 : decode cX2_near 11 = .ok (.ifCond .lt 9, 3) := by decide +kernel
theorem dX2_near_14 : decode cX2_near 14 = .ok (.iload_n 2, 1) := by decide +kernel
theorem dX2_near_15 : decode cX2_near 15 = .ok (.bipush 7, 2) := by decide +kernel
theorem dX2_near_17 : decode cX2_near 17 = .ok (.if_icmp .le 8, 3) := by decide +kernel
theorem dX2_near_20 : decode cX2_near 20 = .ok (.bipush 99, 2) := by decide +kernel
theorem dX2_near_22 : decode cX2_near 22 = .ok (.goto 8, 3) := by decide +kernel
theorem dX2_near_25 : decode cX2_near 25 = .ok (.aload_n 0, 1) := by decide +kernel
theorem dX2_near_26 : decode cX2_near 26 = .ok (.iload_n 1, 1) := by decide +kernel
theorem dX2_near_27 : decode cX2_near 27 = .ok (.aaload, 1) := by decide +kernel
theorem dX2_near_28 : decode cX2_near 28 = .ok (.iload_n 2, 1) := by decide +kernel
theorem dX2_near_29 : decode cX2_near 29 = .ok (.iaload, 1) := by decide +kernel
theorem dX2_near_30 : decode cX2_near 30 = .ok (.ireturn, 1) := by decide +kernel
set_option maxRecDepth 20000 in
theorem ggX2_steps_J7_fill_53178 : GoodIn wsX2_steps wsJ7_fill_53178 := goodIn_r _ [10] (by decide +kernel) (by decide +kernel)
set_option maxRecDepth 20000 in
theorem gX2_steps_J7_fill_53178 : GoodIn wsX2_steps (va_wsS RX2 44 yJ7_fill_53178 wsJ7_fill_53178) := goodIn_app (goodIn_of _ (by decide +kernel)) ggX2_steps_J7_fill_53178
set_option maxRecDepth 20000 in
theorem ggX2_steps_X2_isLand : GoodIn wsX2_steps wsX2_isLand := goodIn_r _ [15, 16, 17, 18, 14, 19, 20, 28, 29, 30, 31] (by decide +kernel) (by decide +kernel)
set_option maxRecDepth 20000 in
theorem gX2_steps_X2_isLand : GoodIn wsX2_steps (wsV RX2 35 RX2 yX2_isLand wsX2_isLand) := goodIn_app (goodIn_of _ (by decide +kernel)) ggX2_steps_X2_isLand
set_option maxRecDepth 20000 in
theorem ggX2_steps_X2_isWater : GoodIn wsX2_steps wsX2_isWater := goodIn_r _ [24, 16, 17, 18, 14, 19, 20, 28, 29, 30, 31] (by decide +kernel) (by decide +kernel)
set_option maxRecDepth 20000 in
theorem gX2_steps_X2_isWater : GoodIn wsX2_steps (wsV RX2 50 RX2 yX2_isWater wsX2_isWater) := goodIn_app (goodIn_of _ (by decide +kernel)) ggX2_steps_X2_isWater
set_option maxRecDepth 20000 in
theorem ggX2_steps_X2_near : GoodIn wsX2_steps wsX2_near := goodIn_r _ [27] (by decide +kernel) (by decide +kernel)
set_option maxRecDepth 20000 in
theorem gX2_steps_X2_near : GoodIn wsX2_steps (va_wsS RX2 53 yX2_near wsX2_near) := goodIn_app (goodIn_of _ (by decide +kernel)) ggX2_steps_X2_near
theorem dX2_steps_0 : decode cX2_steps 0 = .ok (.bipush 8, 2) := by decide +kernel
theorem dX2_steps_2 : decode cX2_steps 2 = .ok (.bipush 8, 2) := by decide +kernel
theorem dX2_steps_4 : decode cX2_steps 4 = .ok (.multianewarray 7 2, 4) := by decide +kernel
theorem dX2_steps_8 : decode cX2_steps 8 = .ok (.astore_n 3, 1) := by decide +kernel
theorem dX2_steps_9 : decode cX2_steps 9 = .ok (.aload_n 3, 1) := by decide +kernel
theorem dX2_steps_10 : decode cX2_steps 10 = .ok (.astore 4, 2) := by decide +kernel
theorem dX2_steps_12 : decode cX2_steps 12 = .ok (.aload 4, 2) := by decide +kernel
theorem dX2_steps_14 : decode cX2_steps 14 = .ok (.arraylength, 1) := by decide +kernel
theorem dX2_steps_15 : decode cX2_steps 15 = .ok (.istore 5, 2) := by decide +kernel
theorem dX2_steps_17 : decode cX2_steps 17 = .ok (.iconst 0, 1) := by decide +kernel
theorem dX2_steps_18 : decode cX2_steps 18 = .ok (.istore 6, 2) := by decide +kernel
theorem dX2_steps_20 : decode cX2_steps 20 = .ok (.iload 6, 2) := by decide +kernel
theorem dX2_steps_22 : decode cX2_steps 22 = .ok (.iload 5, 2) := by decide +kernel
theorem dX2_steps_24 : decode cX2_steps 24 = .ok (.if_icmp .ge 23, 3) := by decide +kernel
theorem dX2_steps_27 : decode cX2_steps 27 = .ok (.aload 4, 2) := by decide +kernel
theorem dX2_steps_29 : decode cX2_steps 29 = .ok (.iload 6, 2) := by decide +kernel
theorem dX2_steps_31 : decode cX2_steps 31 = .ok (.aaload, 1) := by decide +kernel
theorem dX2_steps_32 : decode cX2_steps 32 = .ok (.astore 7, 2) := by decide +kernel
theorem dX2_steps_34 : decode cX2_steps 34 = .ok (.aload 7, 2) := by decide +kernel
theorem dX2_steps_36 : decode cX2_steps 36 = .ok (.bipush 99, 2) := by decide +kernel
theorem dX2_steps_38 : decode cX2_steps 38 = .ok (.invokestatic 44, 3) := by decide +kernel
theorem dX2_steps_41 : decode cX2_steps 41 = .ok (.iinc 6 1, 3) := by decide +kernel
theorem dX2_steps_44 : decode cX2_steps 44 = .ok (.goto (-24), 3) := by decide +kernel
theorem dX2_steps_47 : decode cX2_steps 47 = .ok (.aload_n 3, 1) := by decide +kernel
theorem dX2_steps_48 : decode cX2_steps 48 = .ok (.iload_n 1, 1) := by decide +kernel
theorem dX2_steps_49 : decode cX2_steps 49 = .ok (.bipush 8, 2) := by decide +kernel
theorem dX2_steps_51 : decode cX2_steps 51 = .ok (.irem, 1) := by decide +kernel
theorem dX2_steps_52 : decode cX2_steps 52 = .ok (.aaload, 1) := by decide +kernel
theorem dX2_steps_53 : decode cX2_steps 53 = .ok (.iload_n 1, 1) := by decide +kernel
theorem dX2_steps_54 : decode cX2_steps 54 = .ok (.bipush 8, 2) := by decide +kernel
theorem dX2_steps_56 : decode cX2_steps 56 = .ok (.idiv, 1) := by decide +kernel
theorem dX2_steps_57 : decode cX2_steps 57 = .ok (.iconst 0, 1) := by decide +kernel
theorem dX2_steps_58 : decode cX2_steps 58 = .ok (.iastore, 1) := by decide +kernel
theorem dX2_steps_59 : decode cX2_steps 59 = .ok (.iconst 1, 1) := by decide +kernel
theorem dX2_steps_60 : decode cX2_steps 60 = .ok (.istore 4, 2) := by decide +kernel
theorem dX2_steps_62 : decode cX2_steps 62 = .ok (.iload 4, 2) := by decide +kernel
theorem dX2_steps_64 : decode cX2_steps 64 = .ok (.ifCond .eq 153, 3) := by decide +kernel
theorem dX2_steps_67 : decode cX2_steps 67 = .ok (.iconst 0, 1) := by decide +kernel
theorem dX2_steps_68 : decode cX2_steps 68 = .ok (.istore 4, 2) := by decide +kernel
theorem dX2_steps_70 : decode cX2_steps 70 = .ok (.iconst 0, 1) := by decide +kernel
theorem dX2_steps_71 : decode cX2_steps 71 = .ok (.istore 5, 2) := by decide +kernel
theorem dX2_steps_73 : decode cX2_steps 73 = .ok (.iload 5, 2) := by decide +kernel
theorem dX2_steps_75 : decode cX2_steps 75 = .ok (.bipush 8, 2) := by decide +kernel
theorem dX2_steps_77 : decode cX2_steps 77 = .ok (.if_icmp .ge 137, 3) := by decide +kernel
theorem dX2_steps_80 : decode cX2_steps 80 = .ok (.iconst 0, 1) := by decide +kernel
theorem dX2_steps_81 : decode cX2_steps 81 = .ok (.istore 6, 2) := by decide +kernel
theorem dX2_steps_83 : decode cX2_steps 83 = .ok (.iload 6, 2) := by decide +kernel
theorem dX2_steps_85 : decode cX2_steps 85 = .ok (.bipush 8, 2) := by decide +kernel
theorem dX2_steps_87 : decode cX2_steps 87 = .ok (.if_icmp .ge 121, 3) := by decide +kernel
theorem dX2_steps_90 : decode cX2_steps 90 = .ok (.iload_n 2, 1) := by decide +kernel
theorem dX2_steps_91 : decode cX2_steps 91 = .ok (.ifCond .eq 17, 3) := by decide +kernel
theorem dX2_steps_94 : decode cX2_steps 94 = .ok (.aload_n 0, 1) := by decide +kernel
theorem dX2_steps_95 : decode cX2_steps 95 = .ok (.iload 6, 2) := by decide +kernel
theorem dX2_steps_97 : decode cX2_steps 97 = .ok (.iload 5, 2) := by decide +kernel
theorem dX2_steps_99 : decode cX2_steps 99 = .ok (.invokevirtual 35, 3) := by decide +kernel
theorem dX2_steps_102 : decode cX2_steps 102 = .ok (.ifCond .eq 100, 3) := by decide +kernel
theorem dX2_steps_105 : decode cX2_steps 105 = .ok (.goto 17, 3) := by decide +kernel
theorem dX2_steps_108 : decode cX2_steps 108 = .ok (.aload_n 0, 1) := by decide +kernel
theorem dX2_steps_109 : decode cX2_steps 109 = .ok (.iload 6, 2) := by decide +kernel
theorem dX2_steps_111 : decode cX2_steps 111 = .ok (.iload 5, 2) := by decide +kernel
theorem dX2_steps_113 : decode cX2_steps 113 = .ok (.invokevirtual 50, 3) := by decide +kernel
theorem dX2_steps_116 : decode cX2_steps 116 = .ok (.ifCond .ne 6, 3) := by decide +kernel
theorem dX2_steps_119 : decode cX2_steps 119 = .ok (.goto 83, 3) := by decide +kernel
theorem dX2_steps_122 : decode cX2_steps 122 = .ok (.iconst 1, 1) := by decide +kernel
theorem dX2_steps_123 : decode cX2_steps 123 = .ok (.aload_n 3, 1) := by decide +kernel
theorem dX2_steps_124 : decode cX2_steps 124 = .ok (.iload 6, 2) := by decide +kernel
theorem dX2_steps_126 : decode cX2_steps 126 = .ok (.iconst 1, 1) := by decide +kernel
theorem dX2_steps_127 : decode cX2_steps 127 = .ok (.isub, 1) := by decide +kernel
theorem dX2_steps_128 : decode cX2_steps 128 = .ok (.iload 5, 2) := by decide +kernel
theorem dX2_steps_130 : decode cX2_steps 130 = .ok (.invokestatic 53, 3) := by decide +kernel
theorem dX2_steps_133 : decode cX2_steps 133 = .ok (.aload_n 3, 1) := by decide +kernel
theorem dX2_steps_134 : decode cX2_steps 134 = .ok (.iload 6, 2) := by decide +kernel
theorem dX2_steps_136 : decode cX2_steps 136 = .ok (.iconst 1, 1) := by decide +kernel
theorem dX2_steps_137 : decode cX2_steps 137 = .ok (.iadd, 1) := by decide +kernel
theorem dX2_steps_138 : decode cX2_steps 138 = .ok (.iload 5, 2) := by decide +kernel
theorem dX2_steps_140 : decode cX2_steps 140 = .ok (.invokestatic 53, 3) := by decide +kernel
theorem dX2_steps_143 : decode cX2_steps 143 = .ok (.invokestatic 39, 3) := by decide +kernel
theorem dX2_steps_146 : decode cX2_steps 146 = .ok (.aload_n 3, 1) := by decide +kernel
theorem dX2_steps_147 : decode cX2_steps 147 = .ok (.iload 6, 2) := by decide +kernel
theorem dX2_steps_149 : decode cX2_steps 149 = .ok (.iload 5, 2) := by decide +kernel
theorem dX2_steps_151 : decode cX2_steps 151 = .ok (.iconst 1, 1) := by decide +kernel
theorem dX2_steps_152 : decode cX2_steps 152 = .ok (.isub, 1) := by decide +kernel
theorem dX2_steps_153 : decode cX2_steps 153 = .ok (.invokestatic 53, 3) := by decide +kernel
theorem dX2_steps_156 : decode cX2_steps 156 = .ok (.aload_n 3, 1) := by decide +kernel
theorem dX2_steps_157 : decode cX2_steps 157 = .ok (.iload 6, 2) := by decide +kernel
theorem dX2_steps_159 : decode cX2_steps 159 = .ok (.iload 5, 2) := by decide +kernel
theorem dX2_steps_161 : decode cX2_steps 161 = .ok (.iconst 1, 1) := by decide +kernel
theorem dX2_steps_162 : decode cX2_steps 162 = .ok (.iadd, 1) := by decide +kernel
theorem dX2_steps_163 : decode cX2_steps 163 = .ok (.invokestatic 53, 3) := by decide +kernel
theorem dX2_steps_166 : decode cX2_steps 166 = .ok (.invokestatic 39, 3) := by decide +kernel
theorem dX2_steps_169 : decode cX2_steps 169 = .ok (.invokestatic 39, 3) := by decide +kernel
theorem dX2_steps_172 : decode cX2_steps 172 = .ok (.iadd, 1) := by decide +kernel
theorem dX2_steps_173 : decode cX2_steps 173 = .ok (.istore 7, 2) := by decide +kernel
theorem dX2_steps_175 : decode cX2_steps 175 = .ok (.iload 7, 2) := by decide +kernel
theorem dX2_steps_177 : decode cX2_steps 177 = .ok (.aload_n 3, 1) := by decide +kernel
theorem dX2_steps_178 : decode cX2_steps 178 = .ok (.iload 6, 2) := by decide +kernel
theorem dX2_steps_180 : decode cX2_steps 180 = .ok (.aaload, 1) := by decide +kernel
theorem dX2_steps_181 : decode cX2_steps 181 = .ok (.iload 5, 2) := by decide +kernel
theorem dX2_steps_183 : decode cX2_steps 183 = .ok (.iaload, 1) := by decide +kernel
theorem dX2_steps_184 : decode cX2_steps 184 = .ok (.if_icmp .lt 6, 3) := by decide +kernel
theorem dX2_steps_187 : decode cX2_steps 187 = .ok (.goto 15, 3) := by decide +kernel
theorem dX2_steps_190 : decode cX2_steps 190 = .ok (.aload_n 3, 1) := by decide +kernel
theorem dX2_steps_191 : decode cX2_steps 191 = .ok (.iload 6, 2) := by decide +kernel
theorem dX2_steps_193 : decode cX2_steps 193 = .ok (.aaload, 1) := by decide +kernel
theorem dX2_steps_194 : decode cX2_steps 194 = .ok (.iload 5, 2) := by decide +kernel
theorem dX2_steps_196 : decode cX2_steps 196 = .ok (.iload 7, 2) := by decide +kernel
theorem dX2_steps_198 : decode cX2_steps 198 = .ok (.iastore, 1) := by decide +kernel
theorem dX2_steps_199 : decode cX2_steps 199 = .ok (.iconst 1, 1) := by decide +kernel
theorem dX2_steps_200 : decode cX2_steps 200 = .ok (.istore 4, 2) := by decide +kernel
theorem dX2_steps_202 : decode cX2_steps 202 = .ok (.iinc 6 1, 3) := by decide +kernel
theorem dX2_steps_205 : decode cX2_steps 205 = .ok (.goto (-122), 3) := by decide +kernel
theorem dX2_steps_208 : decode cX2_steps 208 = .ok (.iinc 5 1, 3) := by decide +kernel
theorem dX2_steps_211 : decode cX2_steps 211 = .ok (.goto (-138), 3) := by decide +kernel
theorem dX2_steps_214 : decode cX2_steps 214 = .ok (.goto (-152), 3) := by decide +kernel
theorem dX2_steps_217 : decode cX2_steps 217 = .ok (.aload_n 3, 1) := by decide +kernel
theorem dX2_steps_218 : decode cX2_steps 218 = .ok (.areturn, 1) := by decide +kernel
set_option maxRecDepth 20000 in
theorem ggX2_isByBoat_X2_isLand : GoodIn wsX2_isByBoat wsX2_isLand := goodIn_r _ [6, 7, 8, 9, 5, 10, 1, 14, 15, 16, 17] (by decide +kernel) (by decide +kernel)
set_option maxRecDepth 20000 in
theorem gX2_isByBoat_X2_isLand : GoodIn wsX2_isByBoat (wsV RX2 35 RX2 yX2_isLand wsX2_isLand) := goodIn_app (goodIn_of _ (by decide +kernel)) ggX2_isByBoat_X2_isLand
set_option maxRecDepth 20000 in
theorem ggX2_isByBoat_X2_near : GoodIn wsX2_isByBoat wsX2_near := goodIn_r _ [13] (by decide +kernel) (by decide +kernel)
set_option maxRecDepth 20000 in
theorem gX2_isByBoat_X2_near : GoodIn wsX2_isByBoat (va_wsS RX2 53 yX2_near wsX2_near) := goodIn_app (goodIn_of _ (by decide +kernel)) ggX2_isByBoat_X2_near
theorem dX2_isByBoat_0 : decode cX2_isByBoat 0 = .ok (.aload_n 0, 1) := by decide +kernel
theorem dX2_isByBoat_1 : decode cX2_isByBoat 1 = .ok (.iload_n 2, 1) := by decide +kernel
theorem dX2_isByBoat_2 : decode cX2_isByBoat 2 = .ok (.iload_n 3, 1) := by decide +kernel
theorem dX2_isByBoat_3 : decode cX2_isByBoat 3 = .ok (.invokevirtual 35, 3) := by decide +kernel
theorem dX2_isByBoat_6 : decode cX2_isByBoat 6 = .ok (.ifCond .eq 16, 3) := by decide +kernel
theorem dX2_isByBoat_9 : decode cX2_isByBoat 9 = .ok (.aload_n 0, 1) := by decide +kernel
theorem dX2_isByBoat_10 : decode cX2_isByBoat 10 = .ok (.getfield 9, 3) := by decide +kernel
theorem dX2_isByBoat_13 : decode cX2_isByBoat 13 = .ok (.iload_n 2, 1) := by decide +kernel
theorem dX2_isByBoat_14 : decode cX2_isByBoat 14 = .ok (.aaload, 1) := by decide +kernel
theorem dX2_isByBoat_15 : decode cX2_isByBoat 15 = .ok (.iload_n 3, 1) := by decide +kernel
theorem dX2_isByBoat_16 : decode cX2_isByBoat 16 = .ok (.iaload, 1) := by decide +kernel
theorem dX2_isByBoat_17 : decode cX2_isByBoat 17 = .ok (.bipush 6, 2) := by decide +kernel
theorem dX2_isByBoat_19 : decode cX2_isByBoat 19 = .ok (.if_icmp .ne 5, 3) := by decide +kernel
theorem dX2_isByBoat_22 : decode cX2_isByBoat 22 = .ok (.iconst 0, 1) := by decide +kernel
theorem dX2_isByBoat_23 : decode cX2_isByBoat 23 = .ok (.ireturn, 1) := by decide +kernel
theorem dX2_isByBoat_24 : decode cX2_isByBoat 24 = .ok (.aload_n 1, 1) := by decide +kernel
theorem dX2_isByBoat_25 : decode cX2_isByBoat 25 = .ok (.iload_n 2, 1) := by decide +kernel
theorem dX2_isByBoat_26 : decode cX2_isByBoat 26 = .ok (.iconst 1, 1) := by decide +kernel
theorem dX2_isByBoat_27 : decode cX2_isByBoat 27 = .ok (.isub, 1) := by decide +kernel
theorem dX2_isByBoat_28 : decode cX2_isByBoat 28 = .ok (.iload_n 3, 1) := by decide +kernel
theorem dX2_isByBoat_29 : decode cX2_isByBoat 29 = .ok (.invokestatic 53, 3) := by decide +kernel
theorem dX2_isByBoat_32 : decode cX2_isByBoat 32 = .ok (.bipush 99, 2) := by decide +kernel
theorem dX2_isByBoat_34 : decode cX2_isByBoat 34 = .ok (.if_icmp .lt 42, 3) := by decide +kernel
theorem dX2_isByBoat_37 : decode cX2_isByBoat 37 = .ok (.aload_n 1, 1) := by decide +kernel
theorem dX2_isByBoat_38 : decode cX2_isByBoat 38 = .ok (.iload_n 2, 1) := by decide +kernel
theorem dX2_isByBoat_39 : decode cX2_isByBoat 39 = .ok (.iconst 1, 1) := by decide +kernel
theorem dX2_isByBoat_40 : decode cX2_isByBoat 40 = .ok (.iadd, 1) := by decide +kernel
theorem dX2_isByBoat_41 : decode cX2_isByBoat 41 = .ok (.iload_n 3, 1) := by decide +kernel
theorem dX2_isByBoat_42 : decode cX2_isByBoat 42 = .ok (.invokestatic 53, 3) := by decide +kernel
theorem dX2_isByBoat_45 : decode cX2_isByBoat 45 = .ok (.bipush 99, 2) := by decide +kernel
theorem dX2_isByBoat_47 : decode cX2_isByBoat 47 = .ok (.if_icmp .lt 29, 3) := by decide +kernel
theorem dX2_isByBoat_50 : decode cX2_isByBoat 50 = .ok (.aload_n 1, 1) := by decide +kernel
theorem dX2_isByBoat_51 : decode cX2_isByBoat 51 = .ok (.iload_n 2, 1) := by decide +kernel
theorem dX2_isByBoat_52 : decode cX2_isByBoat 52 = .ok (.iload_n 3, 1) := by decide +kernel
theorem dX2_isByBoat_53 : decode cX2_isByBoat 53 = .ok (.iconst 1, 1) := by decide +kernel
theorem dX2_isByBoat_54 : decode cX2_isByBoat 54 = .ok (.isub, 1) := by decide +kernel
theorem dX2_isByBoat_55 : decode cX2_isByBoat 55 = .ok (.invokestatic 53, 3) := by decide +kernel
theorem dX2_isByBoat_58 : decode cX2_isByBoat 58 = .ok (.bipush 99, 2) := by decide +kernel
theorem dX2_isByBoat_60 : decode cX2_isByBoat 60 = .ok (.if_icmp .lt 16, 3) := by decide +kernel
theorem dX2_isByBoat_63 : decode cX2_isByBoat 63 = .ok (.aload_n 1, 1) := by decide +kernel
theorem dX2_isByBoat_64 : decode cX2_isByBoat 64 = .ok (.iload_n 2, 1) := by decide +kernel
theorem dX2_isByBoat_65 : decode cX2_isByBoat 65 = .ok (.iload_n 3, 1) := by decide +kernel
theorem dX2_isByBoat_66 : decode cX2_isByBoat 66 = .ok (.iconst 1, 1) := by decide +kernel
theorem dX2_isByBoat_67 : decode cX2_isByBoat 67 = .ok (.iadd, 1) := by decide +kernel
theorem dX2_isByBoat_68 : decode cX2_isByBoat 68 = .ok (.invokestatic 53, 3) := by decide +kernel
theorem dX2_isByBoat_71 : decode cX2_isByBoat 71 = .ok (.bipush 99, 2) := by decide +kernel
theorem dX2_isByBoat_73 : decode cX2_isByBoat 73 = .ok (.if_icmp .ge 7, 3) := by decide +kernel
theorem dX2_isByBoat_76 : decode cX2_isByBoat 76 = .ok (.iconst 1, 1) := by decide +kernel
theorem dX2_isByBoat_77 : decode cX2_isByBoat 77 = .ok (.goto 4, 3) := by decide +kernel
theorem dX2_isByBoat_80 : decode cX2_isByBoat 80 = .ok (.iconst 0, 1) := by decide +kernel
theorem dX2_isByBoat_81 : decode cX2_isByBoat 81 = .ok (.ireturn, 1) := by decide +kernel
set_option maxRecDepth 20000 in
theorem ggX2_beside_X2_at : GoodIn wsX2_beside wsX2_at := goodIn_r _ [5, 6, 7, 8, 9, 10] (by decide +kernel) (by decide +kernel)
set_option maxRecDepth 20000 in
theorem gX2_beside_X2_at : GoodIn wsX2_beside (wsV RX2 31 RX2 yX2_at wsX2_at) := goodIn_app (goodIn_of _ (by decide +kernel)) ggX2_beside_X2_at
theorem dX2_beside_0 : decode cX2_beside 0 = .ok (.aload_n 0, 1) := by decide +kernel
theorem dX2_beside_1 : decode cX2_beside 1 = .ok (.iload_n 1, 1) := by decide +kernel
theorem dX2_beside_2 : decode cX2_beside 2 = .ok (.iconst 1, 1) := by decide +kernel
theorem dX2_beside_3 : decode cX2_beside 3 = .ok (.isub, 1) := by decide +kernel
theorem dX2_beside_4 : decode cX2_beside 4 = .ok (.iload_n 2, 1) := by decide +kernel
theorem dX2_beside_5 : decode cX2_beside 5 = .ok (.invokevirtual 31, 3) := by decide +kernel
theorem dX2_beside_8 : decode cX2_beside 8 = .ok (.iload_n 3, 1) := by decide +kernel
theorem dX2_beside_9 : decode cX2_beside 9 = .ok (.if_icmp .ne 7, 3) := by decide +kernel
theorem dX2_beside_12 : decode cX2_beside 12 = .ok (.iconst 1, 1) := by decide +kernel
theorem dX2_beside_13 : decode cX2_beside 13 = .ok (.goto 4, 3) := by decide +kernel
theorem dX2_beside_16 : decode cX2_beside 16 = .ok (.iconst 0, 1) := by decide +kernel
theorem dX2_beside_17 : decode cX2_beside 17 = .ok (.aload_n 0, 1) := by decide +kernel
theorem dX2_beside_18 : decode cX2_beside 18 = .ok (.iload_n 1, 1) := by decide +kernel
theorem dX2_beside_19 : decode cX2_beside 19 = .ok (.iconst 1, 1) := by decide +kernel
theorem dX2_beside_20 : decode cX2_beside 20 = .ok (.iadd, 1) := by decide +kernel
theorem dX2_beside_21 : decode cX2_beside 21 = .ok (.iload_n 2, 1) := by decide +kernel
theorem dX2_beside_22 : decode cX2_beside 22 = .ok (.invokevirtual 31, 3) := by decide +kernel
theorem dX2_beside_25 : decode cX2_beside 25 = .ok (.iload_n 3, 1) := by decide +kernel
theorem dX2_beside_26 : decode cX2_beside 26 = .ok (.if_icmp .ne 7, 3) := by decide +kernel
theorem dX2_beside_29 : decode cX2_beside 29 = .ok (.iconst 1, 1) := by decide +kernel
theorem dX2_beside_30 : decode cX2_beside 30 = .ok (.goto 4, 3) := by decide +kernel
theorem dX2_beside_33 : decode cX2_beside 33 = .ok (.iconst 0, 1) := by decide +kernel
theorem dX2_beside_34 : decode cX2_beside 34 = .ok (.iadd, 1) := by decide +kernel
theorem dX2_beside_35 : decode cX2_beside 35 = .ok (.aload_n 0, 1) := by decide +kernel
theorem dX2_beside_36 : decode cX2_beside 36 = .ok (.iload_n 1, 1) := by decide +kernel
theorem dX2_beside_37 : decode cX2_beside 37 = .ok (.iload_n 2, 1) := by decide +kernel
theorem dX2_beside_38 : decode cX2_beside 38 = .ok (.iconst 1, 1) := by decide +kernel
theorem dX2_beside_39 : decode cX2_beside 39 = .ok (.isub, 1) := by decide +kernel
theorem dX2_beside_40 : decode cX2_beside 40 = .ok (.invokevirtual 31, 3) := by decide +kernel
theorem dX2_beside_43 : decode cX2_beside 43 = .ok (.iload_n 3, 1) := by decide +kernel
theorem dX2_beside_44 : decode cX2_beside 44 = .ok (.if_icmp .ne 7, 3) := by decide +kernel
theorem dX2_beside_47 : decode cX2_beside 47 = .ok (.iconst 1, 1) := by decide +kernel
theorem dX2_beside_48 : decode cX2_beside 48 = .ok (.goto 4, 3) := by decide +kernel
theorem dX2_beside_51 : decode cX2_beside 51 = .ok (.iconst 0, 1) := by decide +kernel
theorem dX2_beside_52 : decode cX2_beside 52 = .ok (.iadd, 1) := by decide +kernel
theorem dX2_beside_53 : decode cX2_beside 53 = .ok (.aload_n 0, 1) := by decide +kernel
theorem dX2_beside_54 : decode cX2_beside 54 = .ok (.iload_n 1, 1) := by decide +kernel
theorem dX2_beside_55 : decode cX2_beside 55 = .ok (.iload_n 2, 1) := by decide +kernel
theorem dX2_beside_56 : decode cX2_beside 56 = .ok (.iconst 1, 1) := by decide +kernel
theorem dX2_beside_57 : decode cX2_beside 57 = .ok (.iadd, 1) := by decide +kernel
theorem dX2_beside_58 : decode cX2_beside 58 = .ok (.invokevirtual 31, 3) := by decide +kernel
theorem dX2_beside_61 : decode cX2_beside 61 = .ok (.iload_n 3, 1) := by decide +kernel
theorem dX2_beside_62 : decode cX2_beside 62 = .ok (.if_icmp .ne 7, 3) := by decide +kernel
theorem dX2_beside_65 : decode cX2_beside 65 = .ok (.iconst 1, 1) := by decide +kernel
theorem dX2_beside_66 : decode cX2_beside 66 = .ok (.goto 4, 3) := by decide +kernel
theorem dX2_beside_69 : decode cX2_beside 69 = .ok (.iconst 0, 1) := by decide +kernel
theorem dX2_beside_70 : decode cX2_beside 70 = .ok (.iadd, 1) := by decide +kernel
theorem dX2_beside_71 : decode cX2_beside 71 = .ok (.ireturn, 1) := by decide +kernel
theorem dX2_in_0 : decode cX2_in 0 = .ok (.iconst 0, 1) := by decide +kernel
theorem dX2_in_1 : decode cX2_in 1 = .ok (.istore 4, 2) := by decide +kernel
theorem dX2_in_3 : decode cX2_in 3 = .ok (.iconst 0, 1) := by decide +kernel
theorem dX2_in_4 : decode cX2_in 4 = .ok (.istore 5, 2) := by decide +kernel
theorem dX2_in_6 : decode cX2_in 6 = .ok (.iload 5, 2) := by decide +kernel
theorem dX2_in_8 : decode cX2_in 8 = .ok (.bipush 8, 2) := by decide +kernel
theorem dX2_in_10 : decode cX2_in 10 = .ok (.if_icmp .ge 64, 3) := by decide +kernel
theorem dX2_in_13 : decode cX2_in 13 = .ok (.iconst 0, 1) := by decide +kernel
theorem dX2_in_14 : decode cX2_in 14 = .ok (.istore 6, 2) := by decide +kernel
theorem dX2_in_16 : decode cX2_in 16 = .ok (.iload 6, 2) := by decide +kernel
theorem dX2_in_18 : decode cX2_in 18 = .ok (.bipush 8, 2) := by decide +kernel
theorem dX2_in_20 : decode cX2_in 20 = .ok (.if_icmp .ge 48, 3) := by decide +kernel
theorem dX2_in_23 : decode cX2_in 23 = .ok (.iload 4, 2) := by decide +kernel
theorem dX2_in_25 : decode cX2_in 25 = .ok (.aload_n 1, 1) := by decide +kernel
theorem dX2_in_26 : decode cX2_in 26 = .ok (.iload 5, 2) := by decide +kernel
theorem dX2_in_28 : decode cX2_in 28 = .ok (.aaload, 1) := by decide +kernel
theorem dX2_in_29 : decode cX2_in 29 = .ok (.iload 6, 2) := by decide +kernel
theorem dX2_in_31 : decode cX2_in 31 = .ok (.iaload, 1) := by decide +kernel
theorem dX2_in_32 : decode cX2_in 32 = .ok (.iload_n 2, 1) := by decide +kernel
theorem dX2_in_33 : decode cX2_in 33 = .ok (.if_icmp .ne 25, 3) := by decide +kernel
theorem dX2_in_36 : decode cX2_in 36 = .ok (.iload_n 3, 1) := by decide +kernel
theorem dX2_in_37 : decode cX2_in 37 = .ok (.ifCond .lt 17, 3) := by decide +kernel
theorem dX2_in_40 : decode cX2_in 40 = .ok (.aload_n 0, 1) := by decide +kernel
theorem dX2_in_41 : decode cX2_in 41 = .ok (.getfield 9, 3) := by decide +kernel
theorem dX2_in_44 : decode cX2_in 44 = .ok (.iload 5, 2) := by decide +kernel
theorem dX2_in_46 : decode cX2_in 46 = .ok (.aaload, 1) := by decide +kernel
theorem dX2_in_47 : decode cX2_in 47 = .ok (.iload 6, 2) := by decide +kernel
theorem dX2_in_49 : decode cX2_in 49 = .ok (.iaload, 1) := by decide +kernel
theorem dX2_in_50 : decode cX2_in 50 = .ok (.iload_n 3, 1) := by decide +kernel
theorem dX2_in_51 : decode cX2_in 51 = .ok (.if_icmp .ne 7, 3) := by decide +kernel
theorem dX2_in_54 : decode cX2_in 54 = .ok (.iconst 1, 1) := by decide +kernel
theorem dX2_in_55 : decode cX2_in 55 = .ok (.goto 4, 3) := by decide +kernel
theorem dX2_in_58 : decode cX2_in 58 = .ok (.iconst 0, 1) := by decide +kernel
theorem dX2_in_59 : decode cX2_in 59 = .ok (.iadd, 1) := by decide +kernel
theorem dX2_in_60 : decode cX2_in 60 = .ok (.istore 4, 2) := by decide +kernel
theorem dX2_in_62 : decode cX2_in 62 = .ok (.iinc 6 1, 3) := by decide +kernel
theorem dX2_in_65 : decode cX2_in 65 = .ok (.goto (-49), 3) := by decide +kernel
theorem dX2_in_68 : decode cX2_in 68 = .ok (.iinc 5 1, 3) := by decide +kernel
theorem dX2_in_71 : decode cX2_in 71 = .ok (.goto (-65), 3) := by decide +kernel
theorem dX2_in_74 : decode cX2_in 74 = .ok (.iload 4, 2) := by decide +kernel
theorem dX2_in_76 : decode cX2_in 76 = .ok (.ireturn, 1) := by decide +kernel
set_option maxRecDepth 20000 in
theorem ggX2_told_X2_isByBoat : GoodIn wsX2_told wsX2_isByBoat := goodIn_r _ [6, 1, 7, 8, 9, 5, 10, 11, 12, 13, 14, 15, 16, 17, 26, 27, 28, 29] (by decide +kernel) (by decide +kernel)
set_option maxRecDepth 20000 in
theorem gX2_told_X2_isByBoat : GoodIn wsX2_told (wsV RX2 59 RX2 yX2_isByBoat wsX2_isByBoat) := goodIn_app (goodIn_of _ (by decide +kernel)) ggX2_told_X2_isByBoat
set_option maxRecDepth 20000 in
theorem ggX2_told_X2_in : GoodIn wsX2_told wsX2_in := goodIn_r _ [21, 1, 26, 27, 28, 29] (by decide +kernel) (by decide +kernel)
set_option maxRecDepth 20000 in
theorem gX2_told_X2_in : GoodIn wsX2_told (wsV RX2 63 RX2 yX2_in wsX2_in) := goodIn_app (goodIn_of _ (by decide +kernel)) ggX2_told_X2_in
set_option maxRecDepth 20000 in
theorem ggX2_told_X2_beside : GoodIn wsX2_told wsX2_beside := goodIn_r _ [25, 11, 12, 13, 5, 14, 1, 26, 27, 28, 29] (by decide +kernel) (by decide +kernel)
set_option maxRecDepth 20000 in
theorem gX2_told_X2_beside : GoodIn wsX2_told (wsV RX2 66 RX2 yX2_beside wsX2_beside) := goodIn_app (goodIn_of _ (by decide +kernel)) ggX2_told_X2_beside
theorem dX2_told_0 : decode cX2_told 0 = .ok (.iconst 2, 1) := by decide +kernel
theorem dX2_told_1 : decode cX2_told 1 = .ok (.bipush 8, 2) := by decide +kernel
theorem dX2_told_3 : decode cX2_told 3 = .ok (.bipush 8, 2) := by decide +kernel
theorem dX2_told_5 : decode cX2_told 5 = .ok (.multianewarray 57 3, 4) := by decide +kernel
theorem dX2_told_9 : decode cX2_told 9 = .ok (.astore_n 3, 1) := by decide +kernel
theorem dX2_told_10 : decode cX2_told 10 = .ok (.iconst 0, 1) := by decide +kernel
theorem dX2_told_11 : decode cX2_told 11 = .ok (.istore 4, 2) := by decide +kernel
theorem dX2_told_13 : decode cX2_told 13 = .ok (.iload 4, 2) := by decide +kernel
theorem dX2_told_15 : decode cX2_told 15 = .ok (.bipush 8, 2) := by decide +kernel
theorem dX2_told_17 : decode cX2_told 17 = .ok (.if_icmp .ge 215, 3) := by decide +kernel
theorem dX2_told_20 : decode cX2_told 20 = .ok (.iconst 0, 1) := by decide +kernel
theorem dX2_told_21 : decode cX2_told 21 = .ok (.istore 5, 2) := by decide +kernel
theorem dX2_told_23 : decode cX2_told 23 = .ok (.iload 5, 2) := by decide +kernel
theorem dX2_told_25 : decode cX2_told 25 = .ok (.bipush 8, 2) := by decide +kernel
theorem dX2_told_27 : decode cX2_told 27 = .ok (.if_icmp .ge 199, 3) := by decide +kernel
theorem dX2_told_30 : decode cX2_told 30 = .ok (.aload_n 0, 1) := by decide +kernel
theorem dX2_told_31 : decode cX2_told 31 = .ok (.aload_n 2, 1) := by decide +kernel
theorem dX2_told_32 : decode cX2_told 32 = .ok (.iload 4, 2) := by decide +kernel
theorem dX2_told_34 : decode cX2_told 34 = .ok (.iload 5, 2) := by decide +kernel
theorem dX2_told_36 : decode cX2_told 36 = .ok (.invokevirtual 59, 3) := by decide +kernel
theorem dX2_told_39 : decode cX2_told 39 = .ok (.istore 6, 2) := by decide +kernel
theorem dX2_told_41 : decode cX2_told 41 = .ok (.aload_n 0, 1) := by decide +kernel
theorem dX2_told_42 : decode cX2_told 42 = .ok (.getfield 9, 3) := by decide +kernel
theorem dX2_told_45 : decode cX2_told 45 = .ok (.iload 4, 2) := by decide +kernel
theorem dX2_told_47 : decode cX2_told 47 = .ok (.aaload, 1) := by decide +kernel
theorem dX2_told_48 : decode cX2_told 48 = .ok (.iload 5, 2) := by decide +kernel
theorem dX2_told_50 : decode cX2_told 50 = .ok (.iaload, 1) := by decide +kernel
theorem dX2_told_51 : decode cX2_told 51 = .ok (.iconst 3, 1) := by decide +kernel
theorem dX2_told_52 : decode cX2_told 52 = .ok (.if_icmp .ne 94, 3) := by decide +kernel
theorem dX2_told_55 : decode cX2_told 55 = .ok (.aload_n 3, 1) := by decide +kernel
theorem dX2_told_56 : decode cX2_told 56 = .ok (.iconst 0, 1) := by decide +kernel
theorem dX2_told_57 : decode cX2_told 57 = .ok (.aaload, 1) := by decide +kernel
theorem dX2_told_58 : decode cX2_told 58 = .ok (.iload 4, 2) := by decide +kernel
theorem dX2_told_60 : decode cX2_told 60 = .ok (.aaload, 1) := by decide +kernel
theorem dX2_told_61 : decode cX2_told 61 = .ok (.iload 5, 2) := by decide +kernel
theorem dX2_told_63 : decode cX2_told 63 = .ok (.aload_n 0, 1) := by decide +kernel
theorem dX2_told_64 : decode cX2_told 64 = .ok (.aload_n 1, 1) := by decide +kernel
theorem dX2_told_65 : decode cX2_told 65 = .ok (.aload_n 1, 1) := by decide +kernel
theorem dX2_told_66 : decode cX2_told 66 = .ok (.iload 4, 2) := by decide +kernel
theorem dX2_told_68 : decode cX2_told 68 = .ok (.aaload, 1) := by decide +kernel
theorem dX2_told_69 : decode cX2_told 69 = .ok (.iload 5, 2) := by decide +kernel
theorem dX2_told_71 : decode cX2_told 71 = .ok (.iaload, 1) := by decide +kernel
theorem dX2_told_72 : decode cX2_told 72 = .ok (.iconst 5, 1) := by decide +kernel
theorem dX2_told_73 : decode cX2_told 73 = .ok (.invokevirtual 63, 3) := by decide +kernel
theorem dX2_told_76 : decode cX2_told 76 = .ok (.ifCond .le 7, 3) := by decide +kernel
theorem dX2_told_79 : decode cX2_told 79 = .ok (.iconst 0, 1) := by decide +kernel
theorem dX2_told_80 : decode cX2_told 80 = .ok (.goto 4, 3) := by decide +kernel
theorem dX2_told_83 : decode cX2_told 83 = .ok (.iconst 2, 1) := by decide +kernel
theorem dX2_told_84 : decode cX2_told 84 = .ok (.aload_n 0, 1) := by decide +kernel
theorem dX2_told_85 : decode cX2_told 85 = .ok (.iload 4, 2) := by decide +kernel
theorem dX2_told_87 : decode cX2_told 87 = .ok (.iload 5, 2) := by decide +kernel
theorem dX2_told_89 : decode cX2_told 89 = .ok (.iconst 4, 1) := by decide +kernel
theorem dX2_told_90 : decode cX2_told 90 = .ok (.invokevirtual 66, 3) := by decide +kernel
theorem dX2_told_93 : decode cX2_told 93 = .ok (.iadd, 1) := by decide +kernel
theorem dX2_told_94 : decode cX2_told 94 = .ok (.iload 6, 2) := by decide +kernel
theorem dX2_told_96 : decode cX2_told 96 = .ok (.ifCond .eq 7, 3) := by decide +kernel
theorem dX2_told_99 : decode cX2_told 99 = .ok (.iconst 0, 1) := by decide +kernel
theorem dX2_told_100 : decode cX2_told 100 = .ok (.goto 4, 3) := by decide +kernel
theorem dX2_told_103 : decode cX2_told 103 = .ok (.iconst 1, 1) := by decide +kernel
theorem dX2_told_104 : decode cX2_told 104 = .ok (.iadd, 1) := by decide +kernel
theorem dX2_told_105 : decode cX2_told 105 = .ok (.iastore, 1) := by decide +kernel
theorem dX2_told_106 : decode cX2_told 106 = .ok (.aload_n 3, 1) := by decide +kernel
theorem dX2_told_107 : decode cX2_told 107 = .ok (.iconst 1, 1) := by decide +kernel
theorem dX2_told_108 : decode cX2_told 108 = .ok (.aaload, 1) := by decide +kernel
theorem dX2_told_109 : decode cX2_told 109 = .ok (.iload 4, 2) := by decide +kernel
theorem dX2_told_111 : decode cX2_told 111 = .ok (.aaload, 1) := by decide +kernel
theorem dX2_told_112 : decode cX2_told 112 = .ok (.iload 5, 2) := by decide +kernel
theorem dX2_told_114 : decode cX2_told 114 = .ok (.aload_n 3, 1) := by decide +kernel
theorem dX2_told_115 : decode cX2_told 115 = .ok (.iconst 0, 1) := by decide +kernel
theorem dX2_told_116 : decode cX2_told 116 = .ok (.aaload, 1) := by decide +kernel
theorem dX2_told_117 : decode cX2_told 117 = .ok (.iload 4, 2) := by decide +kernel
theorem dX2_told_119 : decode cX2_told 119 = .ok (.aaload, 1) := by decide +kernel
theorem dX2_told_120 : decode cX2_told 120 = .ok (.iload 5, 2) := by decide +kernel
theorem dX2_told_122 : decode cX2_told 122 = .ok (.iaload, 1) := by decide +kernel
theorem dX2_told_123 : decode cX2_told 123 = .ok (.iconst 4, 1) := by decide +kernel
theorem dX2_told_124 : decode cX2_told 124 = .ok (.if_icmp .le 7, 3) := by decide +kernel
theorem dX2_told_127 : decode cX2_told 127 = .ok (.iconst 0, 1) := by decide +kernel
theorem dX2_told_128 : decode cX2_told 128 = .ok (.goto 14, 3) := by decide +kernel
theorem dX2_told_131 : decode cX2_told 131 = .ok (.iconst 4, 1) := by decide +kernel
theorem dX2_told_132 : decode cX2_told 132 = .ok (.aload_n 3, 1) := by decide +kernel
theorem dX2_told_133 : decode cX2_told 133 = .ok (.iconst 0, 1) := by decide +kernel
theorem dX2_told_134 : decode cX2_told 134 = .ok (.aaload, 1) := by decide +kernel
theorem dX2_told_135 : decode cX2_told 135 = .ok (.iload 4, 2) := by decide +kernel
theorem dX2_told_137 : decode cX2_told 137 = .ok (.aaload, 1) := by decide +kernel
theorem dX2_told_138 : decode cX2_told 138 = .ok (.iload 5, 2) := by decide +kernel
theorem dX2_told_140 : decode cX2_told 140 = .ok (.iaload, 1) := by decide +kernel
theorem dX2_told_141 : decode cX2_told 141 = .ok (.isub, 1) := by decide +kernel
theorem dX2_told_142 : decode cX2_told 142 = .ok (.iastore, 1) := by decide +kernel
theorem dX2_told_143 : decode cX2_told 143 = .ok (.goto 77, 3) := by decide +kernel
theorem dX2_told_146 : decode cX2_told 146 = .ok (.aload_n 0, 1) := by decide +kernel
theorem dX2_told_147 : decode cX2_told 147 = .ok (.getfield 9, 3) := by decide +kernel
theorem dX2_told_150 : decode cX2_told 150 = .ok (.iload 4, 2) := by decide +kernel
theorem dX2_told_152 : decode cX2_told 152 = .ok (.aaload, 1) := by decide +kernel
theorem dX2_told_153 : decode cX2_told 153 = .ok (.iload 5, 2) := by decide +kernel
theorem dX2_told_155 : decode cX2_told 155 = .ok (.iaload, 1) := by decide +kernel
theorem dX2_told_156 : decode cX2_told 156 = .ok (.iconst 4, 1) := by decide +kernel
theorem dX2_told_157 : decode cX2_told 157 = .ok (.if_icmp .ne 25, 3) := by decide +kernel
theorem dX2_told_160 : decode cX2_told 160 = .ok (.aload_n 3, 1) := by decide +kernel
theorem dX2_told_161 : decode cX2_told 161 = .ok (.iconst 1, 1) := by decide +kernel
theorem dX2_told_162 : decode cX2_told 162 = .ok (.aaload, 1) := by decide +kernel
theorem dX2_told_163 : decode cX2_told 163 = .ok (.iload 4, 2) := by decide +kernel
theorem dX2_told_165 : decode cX2_told 165 = .ok (.aaload, 1) := by decide +kernel
theorem dX2_told_166 : decode cX2_told 166 = .ok (.iload 5, 2) := by decide +kernel
theorem dX2_told_168 : decode cX2_told 168 = .ok (.iload 6, 2) := by decide +kernel
theorem dX2_told_170 : decode cX2_told 170 = .ok (.ifCond .eq 7, 3) := by decide +kernel
theorem dX2_told_173 : decode cX2_told 173 = .ok (.iconst 5, 1) := by decide +kernel
theorem dX2_told_174 : decode cX2_told 174 = .ok (.goto 4, 3) := by decide +kernel
theorem dX2_told_177 : decode cX2_told 177 = .ok (.iconst 2, 1) := by decide +kernel
theorem dX2_told_178 : decode cX2_told 178 = .ok (.iastore, 1) := by decide +kernel
theorem dX2_told_179 : decode cX2_told 179 = .ok (.goto 41, 3) := by decide +kernel
theorem dX2_told_182 : decode cX2_told 182 = .ok (.aload_n 0, 1) := by decide +kernel
theorem dX2_told_183 : decode cX2_told 183 = .ok (.getfield 9, 3) := by decide +kernel
theorem dX2_told_186 : decode cX2_told 186 = .ok (.iload 4, 2) := by decide +kernel
theorem dX2_told_188 : decode cX2_told 188 = .ok (.aaload, 1) := by decide +kernel
theorem dX2_told_189 : decode cX2_told 189 = .ok (.iload 5, 2) := by decide +kernel
theorem dX2_told_191 : decode cX2_told 191 = .ok (.iaload, 1) := by decide +kernel
theorem dX2_told_192 : decode cX2_told 192 = .ok (.iconst 5, 1) := by decide +kernel
theorem dX2_told_193 : decode cX2_told 193 = .ok (.if_icmp .ne 27, 3) := by decide +kernel
theorem dX2_told_196 : decode cX2_told 196 = .ok (.aload_n 3, 1) := by decide +kernel
theorem dX2_told_197 : decode cX2_told 197 = .ok (.iconst 1, 1) := by decide +kernel
theorem dX2_told_198 : decode cX2_told 198 = .ok (.aaload, 1) := by decide +kernel
theorem dX2_told_199 : decode cX2_told 199 = .ok (.iload 4, 2) := by decide +kernel
theorem dX2_told_201 : decode cX2_told 201 = .ok (.aaload, 1) := by decide +kernel
theorem dX2_told_202 : decode cX2_told 202 = .ok (.iload 5, 2) := by decide +kernel
theorem dX2_told_204 : decode cX2_told 204 = .ok (.aload_n 0, 1) := by decide +kernel
theorem dX2_told_205 : decode cX2_told 205 = .ok (.aload_n 1, 1) := by decide +kernel
theorem dX2_told_206 : decode cX2_told 206 = .ok (.aload_n 1, 1) := by decide +kernel
theorem dX2_told_207 : decode cX2_told 207 = .ok (.iload 4, 2) := by decide +kernel
theorem dX2_told_209 : decode cX2_told 209 = .ok (.aaload, 1) := by decide +kernel
theorem dX2_told_210 : decode cX2_told 210 = .ok (.iload 5, 2) := by decide +kernel
theorem dX2_told_212 : decode cX2_told 212 = .ok (.iaload, 1) := by decide +kernel
theorem dX2_told_213 : decode cX2_told 213 = .ok (.iconst 3, 1) := by decide +kernel
theorem dX2_told_214 : decode cX2_told 214 = .ok (.invokevirtual 63, 3) := by decide +kernel
theorem dX2_told_217 : decode cX2_told 217 = .ok (.iconst 2, 1) := by decide +kernel
theorem dX2_told_218 : decode cX2_told 218 = .ok (.idiv, 1) := by decide +kernel
theorem dX2_told_219 : decode cX2_told 219 = .ok (.iastore, 1) := by decide +kernel
theorem dX2_told_220 : decode cX2_told 220 = .ok (.iinc 5 1, 3) := by decide +kernel
theorem dX2_told_223 : decode cX2_told 223 = .ok (.goto (-200), 3) := by decide +kernel
theorem dX2_told_226 : decode cX2_told 226 = .ok (.iinc 4 1, 3) := by decide +kernel
theorem dX2_told_229 : decode cX2_told 229 = .ok (.goto (-216), 3) := by decide +kernel
theorem dX2_told_232 : decode cX2_told 232 = .ok (.aload_n 3, 1) := by decide +kernel
theorem dX2_told_233 : decode cX2_told 233 = .ok (.areturn, 1) := by decide +kernel
set_option maxRecDepth 20000 in
theorem ggX2_all_X2_quarters : GoodIn wsX2_all wsX2_quarters := goodIn_r _ [5, 6, 7, 8, 9, 10, 11, 12, 13, 14, 4, 15, 16, 17, 18, 19, 20, 52, 53, 54, 55] (by decide +kernel) (by decide +kernel)
set_option maxRecDepth 20000 in
theorem gX2_all_X2_quarters : GoodIn wsX2_all (wsV RX2 70 RX2 yX2_quarters wsX2_quarters) := goodIn_app (goodIn_of _ (by decide +kernel)) ggX2_all_X2_quarters
set_option maxRecDepth 20000 in
theorem ggX2_all_X2_steps : GoodIn wsX2_all wsX2_steps := goodIn_r _ [24, 6, 7, 8, 9, 10, 11, 25, 26, 27, 28, 12, 13, 14, 4, 15, 16, 17, 18, 19, 20, 29, 30, 31, 32, 33, 34, 35, 52, 53, 54, 55] (by decide +kernel) (by decide +kernel)
set_option maxRecDepth 20000 in
theorem gX2_all_X2_steps : GoodIn wsX2_all (wsV RX2 74 RX2 yX2_steps wsX2_steps) := goodIn_app (goodIn_of _ (by decide +kernel)) ggX2_all_X2_steps
set_option maxRecDepth 20000 in
theorem ggX2_all_X2_told : GoodIn wsX2_all wsX2_told := goodIn_r _ [39, 20, 40, 41, 42, 4, 43, 12, 13, 14, 15, 16, 17, 18, 19, 33, 34, 35, 44, 45, 46, 47, 48, 49, 50, 51, 52, 53, 54, 55] (by decide +kernel) (by decide +kernel)
set_option maxRecDepth 20000 in
theorem gX2_all_X2_told : GoodIn wsX2_all (wsV RX2 78 RX2 yX2_told wsX2_told) := goodIn_app (goodIn_of _ (by decide +kernel)) ggX2_all_X2_told
theorem dX2_all_0 : decode cX2_all 0 = .ok (.aload_n 0, 1) := by decide +kernel
theorem dX2_all_1 : decode cX2_all 1 = .ok (.aload_n 0, 1) := by decide +kernel
theorem dX2_all_2 : decode cX2_all 2 = .ok (.invokevirtual 70, 3) := by decide +kernel
theorem dX2_all_5 : decode cX2_all 5 = .ok (.aload_n 0, 1) := by decide +kernel
theorem dX2_all_6 : decode cX2_all 6 = .ok (.iconst 3, 1) := by decide +kernel
theorem dX2_all_7 : decode cX2_all 7 = .ok (.iconst 0, 1) := by decide +kernel
theorem dX2_all_8 : decode cX2_all 8 = .ok (.invokevirtual 74, 3) := by decide +kernel
theorem dX2_all_11 : decode cX2_all 11 = .ok (.invokevirtual 78, 3) := by decide +kernel
theorem dX2_all_14 : decode cX2_all 14 = .ok (.astore_n 2, 1) := by decide +kernel
theorem dX2_all_15 : decode cX2_all 15 = .ok (.iconst 0, 1) := by decide +kernel
theorem dX2_all_16 : decode cX2_all 16 = .ok (.istore_n 3, 1) := by decide +kernel
theorem dX2_all_17 : decode cX2_all 17 = .ok (.iconst 0, 1) := by decide +kernel
theorem dX2_all_18 : decode cX2_all 18 = .ok (.istore 4, 2) := by decide +kernel
theorem dX2_all_20 : decode cX2_all 20 = .ok (.iload 4, 2) := by decide +kernel
theorem dX2_all_22 : decode cX2_all 22 = .ok (.bipush 8, 2) := by decide +kernel
theorem dX2_all_24 : decode cX2_all 24 = .ok (.if_icmp .ge 37, 3) := by decide +kernel
theorem dX2_all_27 : decode cX2_all 27 = .ok (.iconst 0, 1) := by decide +kernel
theorem dX2_all_28 : decode cX2_all 28 = .ok (.istore 5, 2) := by decide +kernel
theorem dX2_all_30 : decode cX2_all 30 = .ok (.iload 5, 2) := by decide +kernel
theorem dX2_all_32 : decode cX2_all 32 = .ok (.bipush 8, 2) := by decide +kernel
theorem dX2_all_34 : decode cX2_all 34 = .ok (.if_icmp .ge 21, 3) := by decide +kernel
theorem dX2_all_37 : decode cX2_all 37 = .ok (.iload_n 3, 1) := by decide +kernel
theorem dX2_all_38 : decode cX2_all 38 = .ok (.aload_n 2, 1) := by decide +kernel
theorem dX2_all_39 : decode cX2_all 39 = .ok (.iload_n 1, 1) := by decide +kernel
theorem dX2_all_40 : decode cX2_all 40 = .ok (.aaload, 1) := by decide +kernel
theorem dX2_all_41 : decode cX2_all 41 = .ok (.iload 4, 2) := by decide +kernel
theorem dX2_all_43 : decode cX2_all 43 = .ok (.aaload, 1) := by decide +kernel
theorem dX2_all_44 : decode cX2_all 44 = .ok (.iload 5, 2) := by decide +kernel
theorem dX2_all_46 : decode cX2_all 46 = .ok (.iaload, 1) := by decide +kernel
theorem dX2_all_47 : decode cX2_all 47 = .ok (.iadd, 1) := by decide +kernel
theorem dX2_all_48 : decode cX2_all 48 = .ok (.istore_n 3, 1) := by decide +kernel
theorem dX2_all_49 : decode cX2_all 49 = .ok (.iinc 5 1, 3) := by decide +kernel
theorem dX2_all_52 : decode cX2_all 52 = .ok (.goto (-22), 3) := by decide +kernel
theorem dX2_all_55 : decode cX2_all 55 = .ok (.iinc 4 1, 3) := by decide +kernel
theorem dX2_all_58 : decode cX2_all 58 = .ok (.goto (-38), 3) := by decide +kernel
theorem dX2_all_61 : decode cX2_all 61 = .ok (.iload_n 3, 1) := by decide +kernel
theorem dX2_all_62 : decode cX2_all 62 = .ok (.ireturn, 1) := by decide +kernel
set_option maxRecDepth 20000 in
theorem ggX2_pass_X2_quarters : GoodIn wsX2_pass wsX2_quarters := goodIn_r _ [11, 12, 13, 14, 15, 16, 17, 18, 19, 20, 10, 21, 22, 23, 24, 25, 1, 57, 58, 59, 60] (by decide +kernel) (by decide +kernel)
set_option maxRecDepth 20000 in
theorem gX2_pass_X2_quarters : GoodIn wsX2_pass (wsV RX2 70 RX2 yX2_quarters wsX2_quarters) := goodIn_app (goodIn_of _ (by decide +kernel)) ggX2_pass_X2_quarters
set_option maxRecDepth 20000 in
theorem ggX2_pass_X2_steps : GoodIn wsX2_pass wsX2_steps := goodIn_r _ [29, 12, 13, 14, 15, 16, 17, 30, 31, 32, 33, 18, 19, 20, 10, 21, 22, 23, 24, 25, 1, 34, 35, 36, 37, 38, 39, 40, 57, 58, 59, 60] (by decide +kernel) (by decide +kernel)
set_option maxRecDepth 20000 in
theorem gX2_pass_X2_steps : GoodIn wsX2_pass (wsV RX2 74 RX2 yX2_steps wsX2_steps) := goodIn_app (goodIn_of _ (by decide +kernel)) ggX2_pass_X2_steps
set_option maxRecDepth 20000 in
theorem ggX2_pass_X2_told : GoodIn wsX2_pass wsX2_told := goodIn_r _ [44, 1, 45, 46, 47, 10, 48, 18, 19, 20, 21, 22, 23, 24, 25, 38, 39, 40, 49, 50, 51, 52, 53, 54, 55, 56, 57, 58, 59, 60] (by decide +kernel) (by decide +kernel)
set_option maxRecDepth 20000 in
theorem gX2_pass_X2_told : GoodIn wsX2_pass (wsV RX2 78 RX2 yX2_told wsX2_told) := goodIn_app (goodIn_of _ (by decide +kernel)) ggX2_pass_X2_told
set_option maxRecDepth 20000 in
theorem ggX2_pass_X2_beside : GoodIn wsX2_pass wsX2_beside := goodIn_r _ [56, 22, 23, 24, 10, 25, 1, 57, 58, 59, 60] (by decide +kernel) (by decide +kernel)
set_option maxRecDepth 20000 in
theorem gX2_pass_X2_beside : GoodIn wsX2_pass (wsV RX2 66 RX2 yX2_beside wsX2_beside) := goodIn_app (goodIn_of _ (by decide +kernel)) ggX2_pass_X2_beside
theorem dX2_pass_0 : decode cX2_pass 0 = .ok (.aload_n 0, 1) := by decide +kernel
theorem dX2_pass_1 : decode cX2_pass 1 = .ok (.aload_n 0, 1) := by decide +kernel
theorem dX2_pass_2 : decode cX2_pass 2 = .ok (.invokevirtual 70, 3) := by decide +kernel
theorem dX2_pass_5 : decode cX2_pass 5 = .ok (.aload_n 0, 1) := by decide +kernel
theorem dX2_pass_6 : decode cX2_pass 6 = .ok (.iconst 3, 1) := by decide +kernel
theorem dX2_pass_7 : decode cX2_pass 7 = .ok (.iconst 0, 1) := by decide +kernel
theorem dX2_pass_8 : decode cX2_pass 8 = .ok (.invokevirtual 74, 3) := by decide +kernel
theorem dX2_pass_11 : decode cX2_pass 11 = .ok (.invokevirtual 78, 3) := by decide +kernel
theorem dX2_pass_14 : decode cX2_pass 14 = .ok (.astore_n 1, 1) := by decide +kernel
theorem dX2_pass_15 : decode cX2_pass 15 = .ok (.iconst 0, 1) := by decide +kernel
theorem dX2_pass_16 : decode cX2_pass 16 = .ok (.istore_n 2, 1) := by decide +kernel
theorem dX2_pass_17 : decode cX2_pass 17 = .ok (.iconst 0, 1) := by decide +kernel
theorem dX2_pass_18 : decode cX2_pass 18 = .ok (.istore_n 3, 1) := by decide +kernel
theorem dX2_pass_19 : decode cX2_pass 19 = .ok (.iload_n 3, 1) := by decide +kernel
theorem dX2_pass_20 : decode cX2_pass 20 = .ok (.bipush 8, 2) := by decide +kernel
theorem dX2_pass_22 : decode cX2_pass 22 = .ok (.if_icmp .ge 71, 3) := by decide +kernel
theorem dX2_pass_25 : decode cX2_pass 25 = .ok (.iconst 0, 1) := by decide +kernel
theorem dX2_pass_26 : decode cX2_pass 26 = .ok (.istore 4, 2) := by decide +kernel
theorem dX2_pass_28 : decode cX2_pass 28 = .ok (.iload 4, 2) := by decide +kernel
theorem dX2_pass_30 : decode cX2_pass 30 = .ok (.bipush 8, 2) := by decide +kernel
theorem dX2_pass_32 : decode cX2_pass 32 = .ok (.if_icmp .ge 55, 3) := by decide +kernel
theorem dX2_pass_35 : decode cX2_pass 35 = .ok (.iload_n 2, 1) := by decide +kernel
theorem dX2_pass_36 : decode cX2_pass 36 = .ok (.aload_n 1, 1) := by decide +kernel
theorem dX2_pass_37 : decode cX2_pass 37 = .ok (.iconst 1, 1) := by decide +kernel
theorem dX2_pass_38 : decode cX2_pass 38 = .ok (.aaload, 1) := by decide +kernel
theorem dX2_pass_39 : decode cX2_pass 39 = .ok (.iload_n 3, 1) := by decide +kernel
theorem dX2_pass_40 : decode cX2_pass 40 = .ok (.aaload, 1) := by decide +kernel
theorem dX2_pass_41 : decode cX2_pass 41 = .ok (.iload 4, 2) := by decide +kernel
theorem dX2_pass_43 : decode cX2_pass 43 = .ok (.iaload, 1) := by decide +kernel
theorem dX2_pass_44 : decode cX2_pass 44 = .ok (.iadd, 1) := by decide +kernel
theorem dX2_pass_45 : decode cX2_pass 45 = .ok (.istore_n 2, 1) := by decide +kernel
theorem dX2_pass_46 : decode cX2_pass 46 = .ok (.aload_n 1, 1) := by decide +kernel
theorem dX2_pass_47 : decode cX2_pass 47 = .ok (.iconst 0, 1) := by decide +kernel
theorem dX2_pass_48 : decode cX2_pass 48 = .ok (.aaload, 1) := by decide +kernel
theorem dX2_pass_49 : decode cX2_pass 49 = .ok (.iload_n 3, 1) := by decide +kernel
theorem dX2_pass_50 : decode cX2_pass 50 = .ok (.aaload, 1) := by decide +kernel
theorem dX2_pass_51 : decode cX2_pass 51 = .ok (.iload 4, 2) := by decide +kernel
theorem dX2_pass_53 : decode cX2_pass 53 = .ok (.iaload, 1) := by decide +kernel
theorem dX2_pass_54 : decode cX2_pass 54 = .ok (.iconst 4, 1) := by decide +kernel
theorem dX2_pass_55 : decode cX2_pass 55 = .ok (.if_icmp .ge 6, 3) := by decide +kernel
theorem dX2_pass_58 : decode cX2_pass 58 = .ok (.goto 23, 3) := by decide +kernel
theorem dX2_pass_61 : decode cX2_pass 61 = .ok (.aload_n 0, 1) := by decide +kernel
theorem dX2_pass_62 : decode cX2_pass 62 = .ok (.getfield 9, 3) := by decide +kernel
theorem dX2_pass_65 : decode cX2_pass 65 = .ok (.iload_n 3, 1) := by decide +kernel
theorem dX2_pass_66 : decode cX2_pass 66 = .ok (.aaload, 1) := by decide +kernel
theorem dX2_pass_67 : decode cX2_pass 67 = .ok (.iload 4, 2) := by decide +kernel
theorem dX2_pass_69 : decode cX2_pass 69 = .ok (.iconst 2, 1) := by decide +kernel
theorem dX2_pass_70 : decode cX2_pass 70 = .ok (.iastore, 1) := by decide +kernel
theorem dX2_pass_71 : decode cX2_pass 71 = .ok (.aload_n 0, 1) := by decide +kernel
theorem dX2_pass_72 : decode cX2_pass 72 = .ok (.dup, 1) := by decide +kernel
theorem dX2_pass_73 : decode cX2_pass 73 = .ok (.getfield 28, 3) := by decide +kernel
theorem dX2_pass_76 : decode cX2_pass 76 = .ok (.iconst 1, 1) := by decide +kernel
theorem dX2_pass_77 : decode cX2_pass 77 = .ok (.iadd, 1) := by decide +kernel
theorem dX2_pass_78 : decode cX2_pass 78 = .ok (.putfield 28, 3) := by decide +kernel
theorem dX2_pass_81 : decode cX2_pass 81 = .ok (.iinc 4 1, 3) := by decide +kernel
theorem dX2_pass_84 : decode cX2_pass 84 = .ok (.goto (-56), 3) := by decide +kernel
theorem dX2_pass_87 : decode cX2_pass 87 = .ok (.iinc 3 1, 3) := by decide +kernel
theorem dX2_pass_90 : decode cX2_pass 90 = .ok (.goto (-71), 3) := by decide +kernel
theorem dX2_pass_93 : decode cX2_pass 93 = .ok (.bipush 8, 2) := by decide +kernel
theorem dX2_pass_95 : decode cX2_pass 95 = .ok (.bipush 8, 2) := by decide +kernel
theorem dX2_pass_97 : decode cX2_pass 97 = .ok (.multianewarray 82 2, 4) := by decide +kernel
theorem dX2_pass_101 : decode cX2_pass 101 = .ok (.astore_n 3, 1) := by decide +kernel
theorem dX2_pass_102 : decode cX2_pass 102 = .ok (.iconst 0, 1) := by decide +kernel
theorem dX2_pass_103 : decode cX2_pass 103 = .ok (.istore 4, 2) := by decide +kernel
theorem dX2_pass_105 : decode cX2_pass 105 = .ok (.iload 4, 2) := by decide +kernel
theorem dX2_pass_107 : decode cX2_pass 107 = .ok (.bipush 8, 2) := by decide +kernel
theorem dX2_pass_109 : decode cX2_pass 109 = .ok (.if_icmp .ge 64, 3) := by decide +kernel
theorem dX2_pass_112 : decode cX2_pass 112 = .ok (.iconst 0, 1) := by decide +kernel
theorem dX2_pass_113 : decode cX2_pass 113 = .ok (.istore 5, 2) := by decide +kernel
theorem dX2_pass_115 : decode cX2_pass 115 = .ok (.iload 5, 2) := by decide +kernel
theorem dX2_pass_117 : decode cX2_pass 117 = .ok (.bipush 8, 2) := by decide +kernel
theorem dX2_pass_119 : decode cX2_pass 119 = .ok (.if_icmp .ge 48, 3) := by decide +kernel
theorem dX2_pass_122 : decode cX2_pass 122 = .ok (.aload_n 3, 1) := by decide +kernel
theorem dX2_pass_123 : decode cX2_pass 123 = .ok (.iload 4, 2) := by decide +kernel
theorem dX2_pass_125 : decode cX2_pass 125 = .ok (.aaload, 1) := by decide +kernel
theorem dX2_pass_126 : decode cX2_pass 126 = .ok (.iload 5, 2) := by decide +kernel
theorem dX2_pass_128 : decode cX2_pass 128 = .ok (.aload_n 0, 1) := by decide +kernel
theorem dX2_pass_129 : decode cX2_pass 129 = .ok (.getfield 9, 3) := by decide +kernel
theorem dX2_pass_132 : decode cX2_pass 132 = .ok (.iload 4, 2) := by decide +kernel
theorem dX2_pass_134 : decode cX2_pass 134 = .ok (.aaload, 1) := by decide +kernel
theorem dX2_pass_135 : decode cX2_pass 135 = .ok (.iload 5, 2) := by decide +kernel
theorem dX2_pass_137 : decode cX2_pass 137 = .ok (.iaload, 1) := by decide +kernel
theorem dX2_pass_138 : decode cX2_pass 138 = .ok (.iconst 2, 1) := by decide +kernel
theorem dX2_pass_139 : decode cX2_pass 139 = .ok (.if_icmp .ne 20, 3) := by decide +kernel
theorem dX2_pass_142 : decode cX2_pass 142 = .ok (.aload_n 0, 1) := by decide +kernel
theorem dX2_pass_143 : decode cX2_pass 143 = .ok (.iload 4, 2) := by decide +kernel
theorem dX2_pass_145 : decode cX2_pass 145 = .ok (.iload 5, 2) := by decide +kernel
theorem dX2_pass_147 : decode cX2_pass 147 = .ok (.iconst 0, 1) := by decide +kernel
theorem dX2_pass_148 : decode cX2_pass 148 = .ok (.invokevirtual 66, 3) := by decide +kernel
theorem dX2_pass_151 : decode cX2_pass 151 = .ok (.iconst 2, 1) := by decide +kernel
theorem dX2_pass_152 : decode cX2_pass 152 = .ok (.if_icmp .le 7, 3) := by decide +kernel
theorem dX2_pass_155 : decode cX2_pass 155 = .ok (.iconst 1, 1) := by decide +kernel
theorem dX2_pass_156 : decode cX2_pass 156 = .ok (.goto 4, 3) := by decide +kernel
theorem dX2_pass_159 : decode cX2_pass 159 = .ok (.iconst 0, 1) := by decide +kernel
theorem dX2_pass_160 : decode cX2_pass 160 = .ok (.bastore, 1) := by decide +kernel
theorem dX2_pass_161 : decode cX2_pass 161 = .ok (.iinc 5 1, 3) := by decide +kernel
theorem dX2_pass_164 : decode cX2_pass 164 = .ok (.goto (-49), 3) := by decide +kernel
theorem dX2_pass_167 : decode cX2_pass 167 = .ok (.iinc 4 1, 3) := by decide +kernel
theorem dX2_pass_170 : decode cX2_pass 170 = .ok (.goto (-65), 3) := by decide +kernel
theorem dX2_pass_173 : decode cX2_pass 173 = .ok (.iconst 0, 1) := by decide +kernel
theorem dX2_pass_174 : decode cX2_pass 174 = .ok (.istore 4, 2) := by decide +kernel
theorem dX2_pass_176 : decode cX2_pass 176 = .ok (.iload 4, 2) := by decide +kernel
theorem dX2_pass_178 : decode cX2_pass 178 = .ok (.bipush 8, 2) := by decide +kernel
theorem dX2_pass_180 : decode cX2_pass 180 = .ok (.if_icmp .ge 46, 3) := by decide +kernel
theorem dX2_pass_183 : decode cX2_pass 183 = .ok (.iconst 0, 1) := by decide +kernel
theorem dX2_pass_184 : decode cX2_pass 184 = .ok (.istore 5, 2) := by decide +kernel
theorem dX2_pass_186 : decode cX2_pass 186 = .ok (.iload 5, 2) := by decide +kernel
theorem dX2_pass_188 : decode cX2_pass 188 = .ok (.bipush 8, 2) := by decide +kernel
theorem dX2_pass_190 : decode cX2_pass 190 = .ok (.if_icmp .ge 30, 3) := by decide +kernel
theorem dX2_pass_193 : decode cX2_pass 193 = .ok (.aload_n 3, 1) := by decide +kernel
theorem dX2_pass_194 : decode cX2_pass 194 = .ok (.iload 4, 2) := by decide +kernel
theorem dX2_pass_196 : decode cX2_pass 196 = .ok (.aaload, 1) := by decide +kernel
theorem dX2_pass_197 : decode cX2_pass 197 = .ok (.iload 5, 2) := by decide +kernel
theorem dX2_pass_199 : decode cX2_pass 199 = .ok (.baload, 1) := by decide +kernel
theorem dX2_pass_200 : decode cX2_pass 200 = .ok (.ifCond .eq 14, 3) := by decide +kernel
theorem dX2_pass_203 : decode cX2_pass 203 = .ok (.aload_n 0, 1) := by decide +kernel
theorem dX2_pass_204 : decode cX2_pass 204 = .ok (.getfield 9, 3) := by decide +kernel
theorem dX2_pass_207 : decode cX2_pass 207 = .ok (.iload 4, 2) := by decide +kernel
theorem dX2_pass_209 : decode cX2_pass 209 = .ok (.aaload, 1) := by decide +kernel
theorem dX2_pass_210 : decode cX2_pass 210 = .ok (.iload 5, 2) := by decide +kernel
theorem dX2_pass_212 : decode cX2_pass 212 = .ok (.iconst 0, 1) := by decide +kernel
theorem dX2_pass_213 : decode cX2_pass 213 = .ok (.iastore, 1) := by decide +kernel
theorem dX2_pass_214 : decode cX2_pass 214 = .ok (.iinc 5 1, 3) := by decide +kernel
theorem dX2_pass_217 : decode cX2_pass 217 = .ok (.goto (-31), 3) := by decide +kernel
theorem dX2_pass_220 : decode cX2_pass 220 = .ok (.iinc 4 1, 3) := by decide +kernel
theorem dX2_pass_223 : decode cX2_pass 223 = .ok (.goto (-47), 3) := by decide +kernel
theorem dX2_pass_226 : decode cX2_pass 226 = .ok (.aload_n 0, 1) := by decide +kernel
theorem dX2_pass_227 : decode cX2_pass 227 = .ok (.dup, 1) := by decide +kernel
theorem dX2_pass_228 : decode cX2_pass 228 = .ok (.getfield 25, 3) := by decide +kernel
theorem dX2_pass_231 : decode cX2_pass 231 = .ok (.iconst 1, 1) := by decide +kernel
theorem dX2_pass_232 : decode cX2_pass 232 = .ok (.iadd, 1) := by decide +kernel
theorem dX2_pass_233 : decode cX2_pass 233 = .ok (.putfield 25, 3) := by decide +kernel
theorem dX2_pass_236 : decode cX2_pass 236 = .ok (.aload_n 0, 1) := by decide +kernel
theorem dX2_pass_237 : decode cX2_pass 237 = .ok (.dup, 1) := by decide +kernel
theorem dX2_pass_238 : decode cX2_pass 238 = .ok (.getfield 14, 3) := by decide +kernel
theorem dX2_pass_241 : decode cX2_pass 241 = .ok (.iload_n 2, 1) := by decide +kernel
theorem dX2_pass_242 : decode cX2_pass 242 = .ok (.iadd, 1) := by decide +kernel
theorem dX2_pass_243 : decode cX2_pass 243 = .ok (.putfield 14, 3) := by decide +kernel
theorem dX2_pass_246 : decode cX2_pass 246 = .ok (.iload_n 2, 1) := by decide +kernel
theorem dX2_pass_247 : decode cX2_pass 247 = .ok (.ireturn, 1) := by decide +kernel
set_option maxRecDepth 20000 in
theorem ggX2_counts_X2_all : GoodIn wsX2_counts wsX2_all := goodIn_r _ [10, 11, 12, 13, 9, 14, 15, 1, 16, 17, 18, 19, 20, 21, 22, 23, 24, 25, 26, 27, 5, 28, 29, 30, 31, 32, 33, 34, 35, 36, 37, 38, 39, 40, 41, 42, 43, 44, 45, 46, 47, 48, 49, 50, 51, 52, 53, 54, 55, 56, 57, 58, 59, 60, 61, 62] (by decide +kernel) (by decide +kernel)
set_option maxRecDepth 20000 in
theorem gX2_counts_X2_all : GoodIn wsX2_counts (wsV RX2 84 RX2 yX2_all wsX2_all) := goodIn_app (goodIn_of _ (by decide +kernel)) ggX2_counts_X2_all
set_option maxRecDepth 20000 in
theorem ggX2_counts_X2_quarters : GoodIn wsX2_counts wsX2_quarters := goodIn_r _ [14, 15, 1, 16, 17, 18, 19, 20, 21, 22, 9, 23, 24, 25, 26, 27, 5, 59, 60, 61, 62] (by decide +kernel) (by decide +kernel)
set_option maxRecDepth 20000 in
theorem gX2_counts_X2_quarters : GoodIn wsX2_counts (wsV RX2 70 RX2 yX2_quarters wsX2_quarters) := goodIn_app (goodIn_of _ (by decide +kernel)) ggX2_counts_X2_quarters
theorem dX2_counts_0 : decode cX2_counts 0 = .ok (.bipush 13, 2) := by decide +kernel
theorem dX2_counts_2 : decode cX2_counts 2 = .ok (.newarray .int, 2) := by decide +kernel
theorem dX2_counts_4 : decode cX2_counts 4 = .ok (.dup, 1) := by decide +kernel
theorem dX2_counts_5 : decode cX2_counts 5 = .ok (.iconst 0, 1) := by decide +kernel
theorem dX2_counts_6 : decode cX2_counts 6 = .ok (.aload_n 0, 1) := by decide +kernel
theorem dX2_counts_7 : decode cX2_counts 7 = .ok (.getfield 25, 3) := by decide +kernel
theorem dX2_counts_10 : decode cX2_counts 10 = .ok (.iastore, 1) := by decide +kernel
theorem dX2_counts_11 : decode cX2_counts 11 = .ok (.dup, 1) := by decide +kernel
theorem dX2_counts_12 : decode cX2_counts 12 = .ok (.iconst 1, 1) := by decide +kernel
theorem dX2_counts_13 : decode cX2_counts 13 = .ok (.aload_n 0, 1) := by decide +kernel
theorem dX2_counts_14 : decode cX2_counts 14 = .ok (.getfield 14, 3) := by decide +kernel
theorem dX2_counts_17 : decode cX2_counts 17 = .ok (.iastore, 1) := by decide +kernel
theorem dX2_counts_18 : decode cX2_counts 18 = .ok (.dup, 1) := by decide +kernel
theorem dX2_counts_19 : decode cX2_counts 19 = .ok (.iconst 2, 1) := by decide +kernel
theorem dX2_counts_20 : decode cX2_counts 20 = .ok (.iconst 0, 1) := by decide +kernel
theorem dX2_counts_21 : decode cX2_counts 21 = .ok (.iastore, 1) := by decide +kernel
theorem dX2_counts_22 : decode cX2_counts 22 = .ok (.dup, 1) := by decide +kernel
theorem dX2_counts_23 : decode cX2_counts 23 = .ok (.iconst 3, 1) := by decide +kernel
theorem dX2_counts_24 : decode cX2_counts 24 = .ok (.iconst 0, 1) := by decide +kernel
theorem dX2_counts_25 : decode cX2_counts 25 = .ok (.iastore, 1) := by decide +kernel
theorem dX2_counts_26 : decode cX2_counts 26 = .ok (.dup, 1) := by decide +kernel
theorem dX2_counts_27 : decode cX2_counts 27 = .ok (.iconst 4, 1) := by decide +kernel
theorem dX2_counts_28 : decode cX2_counts 28 = .ok (.iconst 0, 1) := by decide +kernel
theorem dX2_counts_29 : decode cX2_counts 29 = .ok (.iastore, 1) := by decide +kernel
theorem dX2_counts_30 : decode cX2_counts 30 = .ok (.dup, 1) := by decide +kernel
theorem dX2_counts_31 : decode cX2_counts 31 = .ok (.iconst 5, 1) := by decide +kernel
theorem dX2_counts_32 : decode cX2_counts 32 = .ok (.iconst 0, 1) := by decide +kernel
theorem dX2_counts_33 : decode cX2_counts 33 = .ok (.iastore, 1) := by decide +kernel
theorem dX2_counts_34 : decode cX2_counts 34 = .ok (.dup, 1) := by decide +kernel
theorem dX2_counts_35 : decode cX2_counts 35 = .ok (.bipush 6, 2) := by decide +kernel
theorem dX2_counts_37 : decode cX2_counts 37 = .ok (.iconst 0, 1) := by decide +kernel
theorem dX2_counts_38 : decode cX2_counts 38 = .ok (.iastore, 1) := by decide +kernel
theorem dX2_counts_39 : decode cX2_counts 39 = .ok (.dup, 1) := by decide +kernel
theorem dX2_counts_40 : decode cX2_counts 40 = .ok (.bipush 7, 2) := by decide +kernel
theorem dX2_counts_42 : decode cX2_counts 42 = .ok (.iconst 0, 1) := by decide +kernel
theorem dX2_counts_43 : decode cX2_counts 43 = .ok (.iastore, 1) := by decide +kernel
theorem dX2_counts_44 : decode cX2_counts 44 = .ok (.dup, 1) := by decide +kernel
theorem dX2_counts_45 : decode cX2_counts 45 = .ok (.bipush 8, 2) := by decide +kernel
theorem dX2_counts_47 : decode cX2_counts 47 = .ok (.iconst 0, 1) := by decide +kernel
theorem dX2_counts_48 : decode cX2_counts 48 = .ok (.iastore, 1) := by decide +kernel
theorem dX2_counts_49 : decode cX2_counts 49 = .ok (.dup, 1) := by decide +kernel
theorem dX2_counts_50 : decode cX2_counts 50 = .ok (.bipush 9, 2) := by decide +kernel
theorem dX2_counts_52 : decode cX2_counts 52 = .ok (.iconst 0, 1) := by decide +kernel
theorem dX2_counts_53 : decode cX2_counts 53 = .ok (.iastore, 1) := by decide +kernel
theorem dX2_counts_54 : decode cX2_counts 54 = .ok (.dup, 1) := by decide +kernel
theorem dX2_counts_55 : decode cX2_counts 55 = .ok (.bipush 10, 2) := by decide +kernel
theorem dX2_counts_57 : decode cX2_counts 57 = .ok (.aload_n 0, 1) := by decide +kernel
theorem dX2_counts_58 : decode cX2_counts 58 = .ok (.iconst 0, 1) := by decide +kernel
theorem dX2_counts_59 : decode cX2_counts 59 = .ok (.invokevirtual 84, 3) := by decide +kernel
theorem dX2_counts_62 : decode cX2_counts 62 = .ok (.iastore, 1) := by decide +kernel
theorem dX2_counts_63 : decode cX2_counts 63 = .ok (.dup, 1) := by decide +kernel
theorem dX2_counts_64 : decode cX2_counts 64 = .ok (.bipush 11, 2) := by decide +kernel
theorem dX2_counts_66 : decode cX2_counts 66 = .ok (.aload_n 0, 1) := by decide +kernel
theorem dX2_counts_67 : decode cX2_counts 67 = .ok (.iconst 1, 1) := by decide +kernel
theorem dX2_counts_68 : decode cX2_counts 68 = .ok (.invokevirtual 84, 3) := by decide +kernel
theorem dX2_counts_71 : decode cX2_counts 71 = .ok (.iastore, 1) := by decide +kernel
theorem dX2_counts_72 : decode cX2_counts 72 = .ok (.dup, 1) := by decide +kernel
theorem dX2_counts_73 : decode cX2_counts 73 = .ok (.bipush 12, 2) := by decide +kernel
theorem dX2_counts_75 : decode cX2_counts 75 = .ok (.aload_n 0, 1) := by decide +kernel
theorem dX2_counts_76 : decode cX2_counts 76 = .ok (.getfield 28, 3) := by decide +kernel
theorem dX2_counts_79 : decode cX2_counts 79 = .ok (.iastore, 1) := by decide +kernel
theorem dX2_counts_80 : decode cX2_counts 80 = .ok (.astore_n 1, 1) := by decide +kernel
theorem dX2_counts_81 : decode cX2_counts 81 = .ok (.aload_n 0, 1) := by decide +kernel
theorem dX2_counts_82 : decode cX2_counts 82 = .ok (.invokevirtual 70, 3) := by decide +kernel
theorem dX2_counts_85 : decode cX2_counts 85 = .ok (.astore_n 2, 1) := by decide +kernel
theorem dX2_counts_86 : decode cX2_counts 86 = .ok (.iconst 0, 1) := by decide +kernel
theorem dX2_counts_87 : decode cX2_counts 87 = .ok (.istore_n 3, 1) := by decide +kernel
theorem dX2_counts_88 : decode cX2_counts 88 = .ok (.iload_n 3, 1) := by decide +kernel
theorem dX2_counts_89 : decode cX2_counts 89 = .ok (.bipush 8, 2) := by decide +kernel
theorem dX2_counts_91 : decode cX2_counts 91 = .ok (.if_icmp .ge 70, 3) := by decide +kernel
theorem dX2_counts_94 : decode cX2_counts 94 = .ok (.iconst 0, 1) := by decide +kernel
theorem dX2_counts_95 : decode cX2_counts 95 = .ok (.istore 4, 2) := by decide +kernel
theorem dX2_counts_97 : decode cX2_counts 97 = .ok (.iload 4, 2) := by decide +kernel
theorem dX2_counts_99 : decode cX2_counts 99 = .ok (.bipush 8, 2) := by decide +kernel
theorem dX2_counts_101 : decode cX2_counts 101 = .ok (.if_icmp .ge 54, 3) := by decide +kernel
theorem dX2_counts_104 : decode cX2_counts 104 = .ok (.aload_n 1, 1) := by decide +kernel
theorem dX2_counts_105 : decode cX2_counts 105 = .ok (.iconst 2, 1) := by decide +kernel
theorem dX2_counts_106 : decode cX2_counts 106 = .ok (.aload_n 0, 1) := by decide +kernel
theorem dX2_counts_107 : decode cX2_counts 107 = .ok (.getfield 9, 3) := by decide +kernel
theorem dX2_counts_110 : decode cX2_counts 110 = .ok (.iload_n 3, 1) := by decide +kernel
theorem dX2_counts_111 : decode cX2_counts 111 = .ok (.aaload, 1) := by decide +kernel
theorem dX2_counts_112 : decode cX2_counts 112 = .ok (.iload 4, 2) := by decide +kernel
theorem dX2_counts_114 : decode cX2_counts 114 = .ok (.iaload, 1) := by decide +kernel
theorem dX2_counts_115 : decode cX2_counts 115 = .ok (.iadd, 1) := by decide +kernel
theorem dX2_counts_116 : decode cX2_counts 116 = .ok (.dup2, 1) := by decide +kernel
theorem dX2_counts_117 : decode cX2_counts 117 = .ok (.iaload, 1) := by decide +kernel
theorem dX2_counts_118 : decode cX2_counts 118 = .ok (.iconst 1, 1) := by decide +kernel
theorem dX2_counts_119 : decode cX2_counts 119 = .ok (.iadd, 1) := by decide +kernel
theorem dX2_counts_120 : decode cX2_counts 120 = .ok (.iastore, 1) := by decide +kernel
theorem dX2_counts_121 : decode cX2_counts 121 = .ok (.aload_n 1, 1) := by decide +kernel
theorem dX2_counts_122 : decode cX2_counts 122 = .ok (.bipush 9, 2) := by decide +kernel
theorem dX2_counts_124 : decode cX2_counts 124 = .ok (.dup2, 1) := by decide +kernel
theorem dX2_counts_125 : decode cX2_counts 125 = .ok (.iaload, 1) := by decide +kernel
theorem dX2_counts_126 : decode cX2_counts 126 = .ok (.aload_n 2, 1) := by decide +kernel
theorem dX2_counts_127 : decode cX2_counts 127 = .ok (.iload_n 3, 1) := by decide +kernel
theorem dX2_counts_128 : decode cX2_counts 128 = .ok (.aaload, 1) := by decide +kernel
theorem dX2_counts_129 : decode cX2_counts 129 = .ok (.iload 4, 2) := by decide +kernel
theorem dX2_counts_131 : decode cX2_counts 131 = .ok (.iaload, 1) := by decide +kernel
theorem dX2_counts_132 : decode cX2_counts 132 = .ok (.bipush 8, 2) := by decide +kernel
theorem dX2_counts_134 : decode cX2_counts 134 = .ok (.iload 4, 2) := by decide +kernel
theorem dX2_counts_136 : decode cX2_counts 136 = .ok (.imul, 1) := by decide +kernel
theorem dX2_counts_137 : decode cX2_counts 137 = .ok (.iload_n 3, 1) := by decide +kernel
theorem dX2_counts_138 : decode cX2_counts 138 = .ok (.iadd, 1) := by decide +kernel
theorem dX2_counts_139 : decode cX2_counts 139 = .ok (.if_icmp .ne 7, 3) := by decide +kernel
theorem dX2_counts_142 : decode cX2_counts 142 = .ok (.iconst 1, 1) := by decide +kernel
theorem dX2_counts_143 : decode cX2_counts 143 = .ok (.goto 4, 3) := by decide +kernel
theorem dX2_counts_146 : decode cX2_counts 146 = .ok (.iconst 0, 1) := by decide +kernel
theorem dX2_counts_147 : decode cX2_counts 147 = .ok (.iadd, 1) := by decide +kernel
theorem dX2_counts_148 : decode cX2_counts 148 = .ok (.iastore, 1) := by decide +kernel
theorem dX2_counts_149 : decode cX2_counts 149 = .ok (.iinc 4 1, 3) := by decide +kernel
theorem dX2_counts_152 : decode cX2_counts 152 = .ok (.goto (-55), 3) := by decide +kernel
theorem dX2_counts_155 : decode cX2_counts 155 = .ok (.iinc 3 1, 3) := by decide +kernel
theorem dX2_counts_158 : decode cX2_counts 158 = .ok (.goto (-70), 3) := by decide +kernel
theorem dX2_counts_161 : decode cX2_counts 161 = .ok (.aload_n 1, 1) := by decide +kernel
theorem dX2_counts_162 : decode cX2_counts 162 = .ok (.areturn, 1) := by decide +kernel
set_option maxRecDepth 20000 in
theorem ggX2_isSame_X2_quarters : GoodIn wsX2_isSame wsX2_quarters := goodIn_r _ [7, 8, 1, 9, 10, 11, 12, 13, 14, 15, 6, 16, 17, 18, 19, 20, 2, 139, 140, 141, 142] (by decide +kernel) (by decide +kernel)
set_option maxRecDepth 20000 in
theorem gX2_isSame_X2_quarters : GoodIn wsX2_isSame (wsV RX2 70 RX2 yX2_quarters wsX2_quarters) := goodIn_app (goodIn_of _ (by decide +kernel)) ggX2_isSame_X2_quarters
set_option maxRecDepth 20000 in
theorem ggX2_isSame_X2_steps : GoodIn wsX2_isSame wsX2_steps := goodIn_r _ [24, 8, 1, 9, 10, 11, 12, 25, 26, 27, 28, 13, 14, 15, 6, 16, 17, 18, 19, 20, 2, 29, 30, 31, 32, 33, 34, 35, 139, 140, 141, 142] (by decide +kernel) (by decide +kernel)
set_option maxRecDepth 20000 in
theorem gX2_isSame_X2_steps : GoodIn wsX2_isSame (wsV RX2 74 RX2 yX2_steps wsX2_steps) := goodIn_app (goodIn_of _ (by decide +kernel)) ggX2_isSame_X2_steps
set_option maxRecDepth 20000 in
theorem ggX2_isSame_X2_told : GoodIn wsX2_isSame wsX2_told := goodIn_r _ [39, 2, 40, 41, 42, 6, 43, 13, 14, 15, 16, 17, 18, 19, 20, 33, 34, 35, 44, 45, 46, 47, 48, 49, 50, 51, 139, 140, 141, 142] (by decide +kernel) (by decide +kernel)
set_option maxRecDepth 20000 in
theorem gX2_isSame_X2_told : GoodIn wsX2_isSame (wsV RX2 78 RX2 yX2_told wsX2_told) := goodIn_app (goodIn_of _ (by decide +kernel)) ggX2_isSame_X2_told
set_option maxRecDepth 20000 in
theorem ggX2_isSame_X2_isLand : GoodIn wsX2_isSame wsX2_isLand := goodIn_r _ [16, 17, 18, 19, 6, 20, 2, 139, 140, 141, 142] (by decide +kernel) (by decide +kernel)
set_option maxRecDepth 20000 in
theorem gX2_isSame_X2_isLand : GoodIn wsX2_isSame (wsV RX2 35 RX2 yX2_isLand wsX2_isLand) := goodIn_app (goodIn_of _ (by decide +kernel)) ggX2_isSame_X2_isLand
set_option maxRecDepth 20000 in
theorem ggX2_isSame_X2_in : GoodIn wsX2_isSame wsX2_in := goodIn_r _ [47, 2, 139, 140, 141, 142] (by decide +kernel) (by decide +kernel)
set_option maxRecDepth 20000 in
theorem gX2_isSame_X2_in : GoodIn wsX2_isSame (wsV RX2 63 RX2 yX2_in wsX2_in) := goodIn_app (goodIn_of _ (by decide +kernel)) ggX2_isSame_X2_in
set_option maxRecDepth 20000 in
theorem ggX2_isSame_X2_isByBoat : GoodIn wsX2_isSame wsX2_isByBoat := goodIn_r _ [43, 2, 13, 14, 15, 6, 16, 17, 18, 19, 20, 33, 34, 35, 139, 140, 141, 142] (by decide +kernel) (by decide +kernel)
set_option maxRecDepth 20000 in
theorem gX2_isSame_X2_isByBoat : GoodIn wsX2_isSame (wsV RX2 59 RX2 yX2_isByBoat wsX2_isByBoat) := goodIn_app (goodIn_of _ (by decide +kernel)) ggX2_isSame_X2_isByBoat
set_option maxRecDepth 20000 in
theorem ggX2_isSame_X1_lot : GoodIn wsX2_isSame wsX1_lot := goodIn_ca (goodIn_r _ [56, 57, 58, 59, 60, 61, 55, 62, 63, 64, 65, 66, 67, 68, 69, 70, 71, 72, 73, 74, 75, 76, 77, 78, 79, 80, 81, 82, 83, 84, 85, 86, 87, 88, 89, 90, 91, 143, 144, 145, 146, 147, 148, 149, 150, 151, 152, 153, 154, 155, 156, 157] (by decide +kernel) (by decide +kernel)) (goodIn_sub (fun _ h => List.mem_cons_of_mem _ (List.mem_append_right _ h)) (by decide +kernel))
set_option maxRecDepth 20000 in
theorem gX2_isSame_X1_lot : GoodIn wsX2_isSame (wsV RX2 88 RX1 yX1_lot wsX1_lot) := goodIn_app (goodIn_of _ (by decide +kernel)) ggX2_isSame_X1_lot
set_option maxRecDepth 20000 in
theorem ggX2_isSame_X2_counts : GoodIn wsX2_isSame wsX2_counts := goodIn_r _ [95, 1, 96, 97, 98, 2, 99, 100, 101, 6, 102, 3, 4, 5, 7, 8, 9, 10, 11, 12, 13, 14, 15, 16, 17, 18, 19, 20, 21, 22, 23, 24, 25, 26, 27, 28, 29, 30, 31, 32, 33, 34, 35, 36, 37, 38, 39, 40, 41, 42, 43, 44, 45, 46, 47, 48, 49, 50, 51, 139, 140, 141, 142] (by decide +kernel) (by decide +kernel)
set_option maxRecDepth 20000 in
theorem gX2_isSame_X2_counts : GoodIn wsX2_isSame (wsV RX2 93 RX2 yX2_counts wsX2_counts) := goodIn_app (goodIn_of _ (by decide +kernel)) ggX2_isSame_X2_counts
set_option maxRecDepth 20000 in
theorem ggX2_isSame_X1_count : GoodIn wsX2_isSame wsX1_count := goodIn_ca (goodIn_r _ [106, 57, 58, 59, 107, 108, 109, 66, 110, 111, 112, 113, 114, 115, 116, 117, 69, 118, 119, 120, 121, 70, 122, 123, 124, 125, 126, 127, 128, 71, 129, 130, 131, 132, 68, 143, 144, 145, 146, 147, 148, 149, 150, 151, 152, 153, 154, 155, 156, 157] (by decide +kernel) (by decide +kernel)) (goodIn_sub (fun _ h => List.mem_cons_of_mem _ (List.mem_append_right _ h)) (by decide +kernel))
set_option maxRecDepth 20000 in
theorem gX2_isSame_X1_count : GoodIn wsX2_isSame (wsV RX2 97 RX1 yX1_count wsX1_count) := goodIn_app (goodIn_of _ (by decide +kernel)) ggX2_isSame_X1_count
set_option maxRecDepth 20000 in
theorem ggX2_isSame_X1_mean : GoodIn wsX2_isSame wsX1_mean := goodIn_r _ [136, 59, 137, 130, 131, 66, 132, 68, 138, 119, 120, 121, 70, 122, 123, 124, 143, 144, 145, 146, 147, 148, 149, 150, 151, 152, 153, 154, 155, 156, 157] (by decide +kernel) (by decide +kernel)
set_option maxRecDepth 20000 in
theorem gX2_isSame_X1_mean : GoodIn wsX2_isSame (wsV RX2 100 RX1 yX1_mean wsX1_mean) := goodIn_app (goodIn_of _ (by decide +kernel)) ggX2_isSame_X1_mean
theorem dX2_isSame_0 : decode cX2_isSame 0 = .ok (.aload_n 0, 1) := by decide +kernel
theorem dX2_isSame_1 : decode cX2_isSame 1 = .ok (.invokevirtual 70, 3) := by decide +kernel
theorem dX2_isSame_4 : decode cX2_isSame 4 = .ok (.astore_n 2, 1) := by decide +kernel
theorem dX2_isSame_5 : decode cX2_isSame 5 = .ok (.aload_n 0, 1) := by decide +kernel
theorem dX2_isSame_6 : decode cX2_isSame 6 = .ok (.iconst 3, 1) := by decide +kernel
theorem dX2_isSame_7 : decode cX2_isSame 7 = .ok (.iconst 0, 1) := by decide +kernel
theorem dX2_isSame_8 : decode cX2_isSame 8 = .ok (.invokevirtual 74, 3) := by decide +kernel
theorem dX2_isSame_11 : decode cX2_isSame 11 = .ok (.astore_n 3, 1) := by decide +kernel
theorem dX2_isSame_12 : decode cX2_isSame 12 = .ok (.aload_n 0, 1) := by decide +kernel
theorem dX2_isSame_13 : decode cX2_isSame 13 = .ok (.aload_n 2, 1) := by decide +kernel
theorem dX2_isSame_14 : decode cX2_isSame 14 = .ok (.aload_n 3, 1) := by decide +kernel
theorem dX2_isSame_15 : decode cX2_isSame 15 = .ok (.invokevirtual 78, 3) := by decide +kernel
theorem dX2_isSame_18 : decode cX2_isSame 18 = .ok (.astore 4, 2) := by decide +kernel
theorem dX2_isSame_20 : decode cX2_isSame 20 = .ok (.iconst 0, 1) := by decide +kernel
theorem dX2_isSame_21 : decode cX2_isSame 21 = .ok (.istore 5, 2) := by decide +kernel
theorem dX2_isSame_23 : decode cX2_isSame 23 = .ok (.iload 5, 2) := by decide +kernel
theorem dX2_isSame_25 : decode cX2_isSame 25 = .ok (.bipush 8, 2) := by decide +kernel
theorem dX2_isSame_27 : decode cX2_isSame 27 = .ok (.if_icmp .ge 183, 3) := by decide +kernel
theorem dX2_isSame_30 : decode cX2_isSame 30 = .ok (.iconst 0, 1) := by decide +kernel
theorem dX2_isSame_31 : decode cX2_isSame 31 = .ok (.istore 6, 2) := by decide +kernel
theorem dX2_isSame_33 : decode cX2_isSame 33 = .ok (.iload 6, 2) := by decide +kernel
theorem dX2_isSame_35 : decode cX2_isSame 35 = .ok (.bipush 8, 2) := by decide +kernel
theorem dX2_isSame_37 : decode cX2_isSame 37 = .ok (.if_icmp .ge 167, 3) := by decide +kernel
theorem dX2_isSame_40 : decode cX2_isSame 40 = .ok (.aload_n 0, 1) := by decide +kernel
theorem dX2_isSame_41 : decode cX2_isSame 41 = .ok (.iload 5, 2) := by decide +kernel
theorem dX2_isSame_43 : decode cX2_isSame 43 = .ok (.iload 6, 2) := by decide +kernel
theorem dX2_isSame_45 : decode cX2_isSame 45 = .ok (.invokevirtual 35, 3) := by decide +kernel
theorem dX2_isSame_48 : decode cX2_isSame 48 = .ok (.istore 7, 2) := by decide +kernel
theorem dX2_isSame_50 : decode cX2_isSame 50 = .ok (.bipush 6, 2) := by decide +kernel
theorem dX2_isSame_52 : decode cX2_isSame 52 = .ok (.newarray .int, 2) := by decide +kernel
theorem dX2_isSame_54 : decode cX2_isSame 54 = .ok (.dup, 1) := by decide +kernel
theorem dX2_isSame_55 : decode cX2_isSame 55 = .ok (.iconst 0, 1) := by decide +kernel
theorem dX2_isSame_56 : decode cX2_isSame 56 = .ok (.aload_n 0, 1) := by decide +kernel
theorem dX2_isSame_57 : decode cX2_isSame 57 = .ok (.getfield 9, 3) := by decide +kernel
theorem dX2_isSame_60 : decode cX2_isSame 60 = .ok (.iload 5, 2) := by decide +kernel
theorem dX2_isSame_62 : decode cX2_isSame 62 = .ok (.aaload, 1) := by decide +kernel
theorem dX2_isSame_63 : decode cX2_isSame 63 = .ok (.iload 6, 2) := by decide +kernel
theorem dX2_isSame_65 : decode cX2_isSame 65 = .ok (.iaload, 1) := by decide +kernel
theorem dX2_isSame_66 : decode cX2_isSame 66 = .ok (.iastore, 1) := by decide +kernel
theorem dX2_isSame_67 : decode cX2_isSame 67 = .ok (.dup, 1) := by decide +kernel
theorem dX2_isSame_68 : decode cX2_isSame 68 = .ok (.iconst 1, 1) := by decide +kernel
theorem dX2_isSame_69 : decode cX2_isSame 69 = .ok (.aload_n 2, 1) := by decide +kernel
theorem dX2_isSame_70 : decode cX2_isSame 70 = .ok (.iload 5, 2) := by decide +kernel
theorem dX2_isSame_72 : decode cX2_isSame 72 = .ok (.aaload, 1) := by decide +kernel
theorem dX2_isSame_73 : decode cX2_isSame 73 = .ok (.iload 6, 2) := by decide +kernel
theorem dX2_isSame_75 : decode cX2_isSame 75 = .ok (.iaload, 1) := by decide +kernel
theorem dX2_isSame_76 : decode cX2_isSame 76 = .ok (.iastore, 1) := by decide +kernel
theorem dX2_isSame_77 : decode cX2_isSame 77 = .ok (.dup, 1) := by decide +kernel
theorem dX2_isSame_78 : decode cX2_isSame 78 = .ok (.iconst 2, 1) := by decide +kernel
theorem dX2_isSame_79 : decode cX2_isSame 79 = .ok (.iload 7, 2) := by decide +kernel
theorem dX2_isSame_81 : decode cX2_isSame 81 = .ok (.ifCond .eq 19, 3) := by decide +kernel
theorem dX2_isSame_84 : decode cX2_isSame 84 = .ok (.aload_n 0, 1) := by decide +kernel
theorem dX2_isSame_85 : decode cX2_isSame 85 = .ok (.aload_n 2, 1) := by decide +kernel
theorem dX2_isSame_86 : decode cX2_isSame 86 = .ok (.aload_n 2, 1) := by decide +kernel
theorem dX2_isSame_87 : decode cX2_isSame 87 = .ok (.iload 5, 2) := by decide +kernel
theorem dX2_isSame_89 : decode cX2_isSame 89 = .ok (.aaload, 1) := by decide +kernel
theorem dX2_isSame_90 : decode cX2_isSame 90 = .ok (.iload 6, 2) := by decide +kernel
theorem dX2_isSame_92 : decode cX2_isSame 92 = .ok (.iaload, 1) := by decide +kernel
theorem dX2_isSame_93 : decode cX2_isSame 93 = .ok (.iconst (-1), 1) := by decide +kernel
theorem dX2_isSame_94 : decode cX2_isSame 94 = .ok (.invokevirtual 63, 3) := by decide +kernel
theorem dX2_isSame_97 : decode cX2_isSame 97 = .ok (.goto 4, 3) := by decide +kernel
theorem dX2_isSame_100 : decode cX2_isSame 100 = .ok (.iconst 0, 1) := by decide +kernel
theorem dX2_isSame_101 : decode cX2_isSame 101 = .ok (.iastore, 1) := by decide +kernel
theorem dX2_isSame_102 : decode cX2_isSame 102 = .ok (.dup, 1) := by decide +kernel
theorem dX2_isSame_103 : decode cX2_isSame 103 = .ok (.iconst 3, 1) := by decide +kernel
theorem dX2_isSame_104 : decode cX2_isSame 104 = .ok (.aload_n 3, 1) := by decide +kernel
theorem dX2_isSame_105 : decode cX2_isSame 105 = .ok (.iload 5, 2) := by decide +kernel
theorem dX2_isSame_107 : decode cX2_isSame 107 = .ok (.aaload, 1) := by decide +kernel
theorem dX2_isSame_108 : decode cX2_isSame 108 = .ok (.iload 6, 2) := by decide +kernel
theorem dX2_isSame_110 : decode cX2_isSame 110 = .ok (.iaload, 1) := by decide +kernel
theorem dX2_isSame_111 : decode cX2_isSame 111 = .ok (.bipush 99, 2) := by decide +kernel
theorem dX2_isSame_113 : decode cX2_isSame 113 = .ok (.if_icmp .lt 15, 3) := by decide +kernel
theorem dX2_isSame_116 : decode cX2_isSame 116 = .ok (.aload_n 0, 1) := by decide +kernel
theorem dX2_isSame_117 : decode cX2_isSame 117 = .ok (.aload_n 3, 1) := by decide +kernel
theorem dX2_isSame_118 : decode cX2_isSame 118 = .ok (.iload 5, 2) := by decide +kernel
theorem dX2_isSame_120 : decode cX2_isSame 120 = .ok (.iload 6, 2) := by decide +kernel
theorem dX2_isSame_122 : decode cX2_isSame 122 = .ok (.invokevirtual 59, 3) := by decide +kernel
theorem dX2_isSame_125 : decode cX2_isSame 125 = .ok (.ifCond .eq 7, 3) := by decide +kernel
theorem dX2_isSame_128 : decode cX2_isSame 128 = .ok (.iconst 1, 1) := by decide +kernel
theorem dX2_isSame_129 : decode cX2_isSame 129 = .ok (.goto 4, 3) := by decide +kernel
theorem dX2_isSame_132 : decode cX2_isSame 132 = .ok (.iconst 0, 1) := by decide +kernel
theorem dX2_isSame_133 : decode cX2_isSame 133 = .ok (.iastore, 1) := by decide +kernel
theorem dX2_isSame_134 : decode cX2_isSame 134 = .ok (.dup, 1) := by decide +kernel
theorem dX2_isSame_135 : decode cX2_isSame 135 = .ok (.iconst 4, 1) := by decide +kernel
theorem dX2_isSame_136 : decode cX2_isSame 136 = .ok (.aload 4, 2) := by decide +kernel
theorem dX2_isSame_138 : decode cX2_isSame 138 = .ok (.iconst 0, 1) := by decide +kernel
theorem dX2_isSame_139 : decode cX2_isSame 139 = .ok (.aaload, 1) := by decide +kernel
theorem dX2_isSame_140 : decode cX2_isSame 140 = .ok (.iload 5, 2) := by decide +kernel
theorem dX2_isSame_142 : decode cX2_isSame 142 = .ok (.aaload, 1) := by decide +kernel
theorem dX2_isSame_143 : decode cX2_isSame 143 = .ok (.iload 6, 2) := by decide +kernel
theorem dX2_isSame_145 : decode cX2_isSame 145 = .ok (.iaload, 1) := by decide +kernel
theorem dX2_isSame_146 : decode cX2_isSame 146 = .ok (.iastore, 1) := by decide +kernel
theorem dX2_isSame_147 : decode cX2_isSame 147 = .ok (.dup, 1) := by decide +kernel
theorem dX2_isSame_148 : decode cX2_isSame 148 = .ok (.iconst 5, 1) := by decide +kernel
theorem dX2_isSame_149 : decode cX2_isSame 149 = .ok (.aload 4, 2) := by decide +kernel
theorem dX2_isSame_151 : decode cX2_isSame 151 = .ok (.iconst 1, 1) := by decide +kernel
theorem dX2_isSame_152 : decode cX2_isSame 152 = .ok (.aaload, 1) := by decide +kernel
theorem dX2_isSame_153 : decode cX2_isSame 153 = .ok (.iload 5, 2) := by decide +kernel
theorem dX2_isSame_155 : decode cX2_isSame 155 = .ok (.aaload, 1) := by decide +kernel
theorem dX2_isSame_156 : decode cX2_isSame 156 = .ok (.iload 6, 2) := by decide +kernel
theorem dX2_isSame_158 : decode cX2_isSame 158 = .ok (.iaload, 1) := by decide +kernel
theorem dX2_isSame_159 : decode cX2_isSame 159 = .ok (.iastore, 1) := by decide +kernel
theorem dX2_isSame_160 : decode cX2_isSame 160 = .ok (.astore 8, 2) := by decide +kernel
theorem dX2_isSame_162 : decode cX2_isSame 162 = .ok (.iconst 0, 1) := by decide +kernel
theorem dX2_isSame_163 : decode cX2_isSame 163 = .ok (.istore 9, 2) := by decide +kernel
theorem dX2_isSame_165 : decode cX2_isSame 165 = .ok (.iload 9, 2) := by decide +kernel
theorem dX2_isSame_167 : decode cX2_isSame 167 = .ok (.bipush 6, 2) := by decide +kernel
theorem dX2_isSame_169 : decode cX2_isSame 169 = .ok (.if_icmp .ge 29, 3) := by decide +kernel
theorem dX2_isSame_172 : decode cX2_isSame 172 = .ok (.aload_n 1, 1) := by decide +kernel
theorem dX2_isSame_173 : decode cX2_isSame 173 = .ok (.iload 5, 2) := by decide +kernel
theorem dX2_isSame_175 : decode cX2_isSame 175 = .ok (.iload 6, 2) := by decide +kernel
theorem dX2_isSame_177 : decode cX2_isSame 177 = .ok (.iload 9, 2) := by decide +kernel
theorem dX2_isSame_179 : decode cX2_isSame 179 = .ok (.invokevirtual 88, 3) := by decide +kernel
theorem dX2_isSame_182 : decode cX2_isSame 182 = .ok (.aload 8, 2) := by decide +kernel
theorem dX2_isSame_184 : decode cX2_isSame 184 = .ok (.iload 9, 2) := by decide +kernel
theorem dX2_isSame_186 : decode cX2_isSame 186 = .ok (.iaload, 1) := by decide +kernel
theorem dX2_isSame_187 : decode cX2_isSame 187 = .ok (.if_icmp .eq 5, 3) := by decide +kernel
theorem dX2_isSame_190 : decode cX2_isSame 190 = .ok (.iconst 0, 1) := by decide +kernel
theorem dX2_isSame_191 : decode cX2_isSame 191 = .ok (.ireturn, 1) := by decide +kernel
theorem dX2_isSame_192 : decode cX2_isSame 192 = .ok (.iinc 9 1, 3) := by decide +kernel
theorem dX2_isSame_195 : decode cX2_isSame 195 = .ok (.goto (-30), 3) := by decide +kernel
theorem dX2_isSame_198 : decode cX2_isSame 198 = .ok (.iinc 6 1, 3) := by decide +kernel
theorem dX2_isSame_201 : decode cX2_isSame 201 = .ok (.goto (-168), 3) := by decide +kernel
theorem dX2_isSame_204 : decode cX2_isSame 204 = .ok (.iinc 5 1, 3) := by decide +kernel
theorem dX2_isSame_207 : decode cX2_isSame 207 = .ok (.goto (-184), 3) := by decide +kernel
theorem dX2_isSame_210 : decode cX2_isSame 210 = .ok (.aload_n 0, 1) := by decide +kernel
theorem dX2_isSame_211 : decode cX2_isSame 211 = .ok (.invokevirtual 93, 3) := by decide +kernel
theorem dX2_isSame_214 : decode cX2_isSame 214 = .ok (.astore 5, 2) := by decide +kernel
theorem dX2_isSame_216 : decode cX2_isSame 216 = .ok (.iconst 0, 1) := by decide +kernel
theorem dX2_isSame_217 : decode cX2_isSame 217 = .ok (.istore 6, 2) := by decide +kernel
theorem dX2_isSame_219 : decode cX2_isSame 219 = .ok (.iload 6, 2) := by decide +kernel
theorem dX2_isSame_221 : decode cX2_isSame 221 = .ok (.bipush 13, 2) := by decide +kernel
theorem dX2_isSame_223 : decode cX2_isSame 223 = .ok (.if_icmp .ge 25, 3) := by decide +kernel
theorem dX2_isSame_226 : decode cX2_isSame 226 = .ok (.aload_n 1, 1) := by decide +kernel
theorem dX2_isSame_227 : decode cX2_isSame 227 = .ok (.iload 6, 2) := by decide +kernel
theorem dX2_isSame_229 : decode cX2_isSame 229 = .ok (.invokevirtual 97, 3) := by decide +kernel
theorem dX2_isSame_232 : decode cX2_isSame 232 = .ok (.aload 5, 2) := by decide +kernel
theorem dX2_isSame_234 : decode cX2_isSame 234 = .ok (.iload 6, 2) := by decide +kernel
theorem dX2_isSame_236 : decode cX2_isSame 236 = .ok (.iaload, 1) := by decide +kernel
theorem dX2_isSame_237 : decode cX2_isSame 237 = .ok (.if_icmp .eq 5, 3) := by decide +kernel
theorem dX2_isSame_240 : decode cX2_isSame 240 = .ok (.iconst 0, 1) := by decide +kernel
theorem dX2_isSame_241 : decode cX2_isSame 241 = .ok (.ireturn, 1) := by decide +kernel
theorem dX2_isSame_242 : decode cX2_isSame 242 = .ok (.iinc 6 1, 3) := by decide +kernel
theorem dX2_isSame_245 : decode cX2_isSame 245 = .ok (.goto (-26), 3) := by decide +kernel
theorem dX2_isSame_248 : decode cX2_isSame 248 = .ok (.aload_n 1, 1) := by decide +kernel
theorem dX2_isSame_249 : decode cX2_isSame 249 = .ok (.invokevirtual 100, 3) := by decide +kernel
theorem dX2_isSame_252 : decode cX2_isSame 252 = .ok (.aload 5, 2) := by decide +kernel
theorem dX2_isSame_254 : decode cX2_isSame 254 = .ok (.iconst 5, 1) := by decide +kernel
theorem dX2_isSame_255 : decode cX2_isSame 255 = .ok (.iaload, 1) := by decide +kernel
theorem dX2_isSame_256 : decode cX2_isSame 256 = .ok (.ifCond .ne 7, 3) := by decide +kernel
theorem dX2_isSame_259 : decode cX2_isSame 259 = .ok (.dconst 0, 1) := by decide +kernel
theorem dX2_isSame_260 : decode cX2_isSame 260 = .ok (.goto 15, 3) := by decide +kernel
theorem dX2_isSame_263 : decode cX2_isSame 263 = .ok (.aload 5, 2) := by decide +kernel
theorem dX2_isSame_265 : decode cX2_isSame 265 = .ok (.bipush 10, 2) := by decide +kernel
theorem dX2_isSame_267 : decode cX2_isSame 267 = .ok (.iaload, 1) := by decide +kernel
theorem dX2_isSame_268 : decode cX2_isSame 268 = .ok (.i2d, 1) := by decide +kernel
theorem dX2_isSame_269 : decode cX2_isSame 269 = .ok (.aload 5, 2) := by decide +kernel
theorem dX2_isSame_271 : decode cX2_isSame 271 = .ok (.iconst 5, 1) := by decide +kernel
theorem dX2_isSame_272 : decode cX2_isSame 272 = .ok (.iaload, 1) := by decide +kernel
theorem dX2_isSame_273 : decode cX2_isSame 273 = .ok (.i2d, 1) := by decide +kernel
theorem dX2_isSame_274 : decode cX2_isSame 274 = .ok (.ddiv, 1) := by decide +kernel
theorem dX2_isSame_275 : decode cX2_isSame 275 = .ok (.dcmp .l, 1) := by decide +kernel
theorem dX2_isSame_276 : decode cX2_isSame 276 = .ok (.ifCond .ne 7, 3) := by decide +kernel
theorem dX2_isSame_279 : decode cX2_isSame 279 = .ok (.iconst 1, 1) := by decide +kernel
theorem dX2_isSame_280 : decode cX2_isSame 280 = .ok (.goto 4, 3) := by decide +kernel
theorem dX2_isSame_283 : decode cX2_isSame 283 = .ok (.iconst 0, 1) := by decide +kernel
theorem dX2_isSame_284 : decode cX2_isSame 284 = .ok (.ireturn, 1) := by decide +kernel

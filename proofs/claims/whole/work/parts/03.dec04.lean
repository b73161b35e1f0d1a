theorem dX6_anHour_106 : decode cX6_anHour 106 = .ok (.invokevirtual 107, 3) := by decide +kernel
theorem dX6_anHour_109 : decode cX6_anHour 109 = .ok (.invokestatic 120, 3) := by decide +kernel
theorem dX6_anHour_112 : decode cX6_anHour 112 = .ok (.istore_n 2, 1) := by decide +kernel
theorem dX6_anHour_113 : decode cX6_anHour 113 = .ok (.aload_n 0, 1) := by decide +kernel
theorem dX6_anHour_114 : decode cX6_anHour 114 = .ok (.iload_n 2, 1) := by decide +kernel
theorem dX6_anHour_115 : decode cX6_anHour 115 = .ok (.invokevirtual 123, 3) := by decide +kernel
theorem dX6_anHour_118 : decode cX6_anHour 118 = .ok (.aload_n 0, 1) := by decide +kernel
theorem dX6_anHour_119 : decode cX6_anHour 119 = .ok (.iload_n 1, 1) := by decide +kernel
theorem dX6_anHour_120 : decode cX6_anHour 120 = .ok (.invokevirtual 110, 3) := by decide +kernel
theorem dX6_anHour_123 : decode cX6_anHour 123 = .ok (.ifCond .lt 23, 3) := by decide +kernel
theorem dX6_anHour_126 : decode cX6_anHour 126 = .ok (.aload_n 0, 1) := by decide +kernel
theorem dX6_anHour_127 : decode cX6_anHour 127 = .ok (.aload_n 0, 1) := by decide +kernel
theorem dX6_anHour_128 : decode cX6_anHour 128 = .ok (.iload_n 1, 1) := by decide +kernel
theorem dX6_anHour_129 : decode cX6_anHour 129 = .ok (.invokevirtual 110, 3) := by decide +kernel
theorem dX6_anHour_132 : decode cX6_anHour 132 = .ok (.aload_n 0, 1) := by decide +kernel
theorem dX6_anHour_133 : decode cX6_anHour 133 = .ok (.getfield 22, 3) := by decide +kernel
theorem dX6_anHour_136 : decode cX6_anHour 136 = .ok (.iload_n 1, 1) := by decide +kernel
theorem dX6_anHour_137 : decode cX6_anHour 137 = .ok (.iaload, 1) := by decide +kernel
theorem dX6_anHour_138 : decode cX6_anHour 138 = .ok (.iload_n 2, 1) := by decide +kernel
theorem dX6_anHour_139 : decode cX6_anHour 139 = .ok (.isub, 1) := by decide +kernel
theorem dX6_anHour_140 : decode cX6_anHour 140 = .ok (.invokevirtual 127, 3) := by decide +kernel
theorem dX6_anHour_143 : decode cX6_anHour 143 = .ok (.goto 29, 3) := by decide +kernel
theorem dX6_anHour_146 : decode cX6_anHour 146 = .ok (.aload_n 0, 1) := by decide +kernel
theorem dX6_anHour_147 : decode cX6_anHour 147 = .ok (.getfield 9, 3) := by decide +kernel
theorem dX6_anHour_150 : decode cX6_anHour 150 = .ok (.iconst 3, 1) := by decide +kernel
theorem dX6_anHour_151 : decode cX6_anHour 151 = .ok (.ldc 119, 2) := by decide +kernel
theorem dX6_anHour_153 : decode cX6_anHour 153 = .ok (.aload_n 0, 1) := by decide +kernel
theorem dX6_anHour_154 : decode cX6_anHour 154 = .ok (.getfield 9, 3) := by decide +kernel
theorem dX6_anHour_157 : decode cX6_anHour 157 = .ok (.iconst 3, 1) := by decide +kernel
theorem dX6_anHour_158 : decode cX6_anHour 158 = .ok (.iaload, 1) := by decide +kernel
theorem dX6_anHour_159 : decode cX6_anHour 159 = .ok (.aload_n 0, 1) := by decide +kernel
theorem dX6_anHour_160 : decode cX6_anHour 160 = .ok (.getfield 22, 3) := by decide +kernel
theorem dX6_anHour_163 : decode cX6_anHour 163 = .ok (.iload_n 1, 1) := by decide +kernel
theorem dX6_anHour_164 : decode cX6_anHour 164 = .ok (.iaload, 1) := by decide +kernel
theorem dX6_anHour_165 : decode cX6_anHour 165 = .ok (.iadd, 1) := by decide +kernel
theorem dX6_anHour_166 : decode cX6_anHour 166 = .ok (.iload_n 2, 1) := by decide +kernel
theorem dX6_anHour_167 : decode cX6_anHour 167 = .ok (.isub, 1) := by decide +kernel
theorem dX6_anHour_168 : decode cX6_anHour 168 = .ok (.invokestatic 120, 3) := by decide +kernel
theorem dX6_anHour_171 : decode cX6_anHour 171 = .ok (.iastore, 1) := by decide +kernel
theorem dX6_anHour_172 : decode cX6_anHour 172 = .ok (.iinc 1 1, 3) := by decide +kernel
theorem dX6_anHour_175 : decode cX6_anHour 175 = .ok (.goto (-83), 3) := by decide +kernel
theorem dX6_anHour_178 : decode cX6_anHour 178 = .ok (.aload_n 0, 1) := by decide +kernel
theorem dX6_anHour_179 : decode cX6_anHour 179 = .ok (.getfield 9, 3) := by decide +kernel
theorem dX6_anHour_182 : decode cX6_anHour 182 = .ok (.iconst 0, 1) := by decide +kernel
theorem dX6_anHour_183 : decode cX6_anHour 183 = .ok (.dup2, 1) := by decide +kernel
theorem dX6_anHour_184 : decode cX6_anHour 184 = .ok (.iaload, 1) := by decide +kernel
theorem dX6_anHour_185 : decode cX6_anHour 185 = .ok (.iconst 1, 1) := by decide +kernel
theorem dX6_anHour_186 : decode cX6_anHour 186 = .ok (.iadd, 1) := by decide +kernel
theorem dX6_anHour_187 : decode cX6_anHour 187 = .ok (.iastore, 1) := by decide +kernel
theorem dX6_anHour_188 : decode cX6_anHour 188 = .ok (.return_, 1) := by decide +kernel
set_option maxRecDepth 20000 in
theorem ggX6_hours_X6_anHour : GoodIn wsX6_hours wsX6_anHour := goodIn_r _ [5, 6, 7, 8, 9, 10, 11, 12, 13, 14, 15, 16, 17, 18, 19, 4, 20, 21, 22, 23, 24, 25, 26, 27, 28, 29, 30, 31, 32, 33, 34, 35, 36, 37, 38, 39, 40, 41, 42, 43, 44, 45, 46, 47, 48, 49, 50, 51, 52, 53, 54, 55, 56, 57, 58, 59, 60, 61, 62, 63, 64, 65, 66, 67, 68, 69, 70, 71, 72, 73, 74, 75] (by decide +kernel) (by decide +kernel)
set_option maxRecDepth 20000 in
theorem gX6_hours_X6_anHour : GoodIn wsX6_hours (wsV RX6 138 RX6 yX6_anHour wsX6_anHour) := goodIn_app (goodIn_of _ (by decide +kernel)) ggX6_hours_X6_anHour
theorem dX6_hours_0 : decode cX6_hours 0 = .ok (.iconst 0, 1) := by decide +kernel
theorem dX6_hours_1 : decode cX6_hours 1 = .ok (.istore_n 2, 1) := by decide +kernel
theorem dX6_hours_2 : decode cX6_hours 2 = .ok (.iload_n 2, 1) := by decide +kernel
theorem dX6_hours_3 : decode cX6_hours 3 = .ok (.iload_n 1, 1) := by decide +kernel
theorem dX6_hours_4 : decode cX6_hours 4 = .ok (.if_icmp .ge 13, 3) := by decide +kernel
theorem dX6_hours_7 : decode cX6_hours 7 = .ok (.aload_n 0, 1) := by decide +kernel
theorem dX6_hours_8 : decode cX6_hours 8 = .ok (.invokevirtual 138, 3) := by decide +kernel
theorem dX6_hours_11 : decode cX6_hours 11 = .ok (.iinc 2 1, 3) := by decide +kernel
theorem dX6_hours_14 : decode cX6_hours 14 = .ok (.goto (-12), 3) := by decide +kernel
theorem dX6_hours_17 : decode cX6_hours 17 = .ok (.return_, 1) := by decide +kernel
set_option maxRecDepth 20000 in
theorem ggX6_dryIn_X6_anHour : GoodIn wsX6_dryIn wsX6_anHour := goodIn_r _ [6, 1, 7, 8, 9, 10, 11, 12, 13, 14, 15, 16, 17, 18, 19, 5, 20, 21, 22, 23, 24, 25, 26, 27, 28, 29, 30, 31, 32, 33, 34, 35, 36, 37, 38, 39, 40, 41, 42, 43, 44, 45, 46, 47, 48, 49, 50, 51, 52, 53, 54, 55, 56, 57, 58, 59, 60, 61, 62, 63, 64, 65, 66, 67, 68, 69, 70, 71, 72, 73, 74, 75] (by decide +kernel) (by decide +kernel)
set_option maxRecDepth 20000 in
theorem gX6_dryIn_X6_anHour : GoodIn wsX6_dryIn (wsV RX6 138 RX6 yX6_anHour wsX6_anHour) := goodIn_app (goodIn_of _ (by decide +kernel)) ggX6_dryIn_X6_anHour
theorem dX6_dryIn_0 : decode cX6_dryIn 0 = .ok (.iconst 0, 1) := by decide +kernel
theorem dX6_dryIn_1 : decode cX6_dryIn 1 = .ok (.istore_n 2, 1) := by decide +kernel
theorem dX6_dryIn_2 : decode cX6_dryIn 2 = .ok (.iconst 0, 1) := by decide +kernel
theorem dX6_dryIn_3 : decode cX6_dryIn 3 = .ok (.istore_n 3, 1) := by decide +kernel
theorem dX6_dryIn_4 : decode cX6_dryIn 4 = .ok (.iload_n 3, 1) := by decide +kernel
theorem dX6_dryIn_5 : decode cX6_dryIn 5 = .ok (.iload_n 1, 1) := by decide +kernel
theorem dX6_dryIn_6 : decode cX6_dryIn 6 = .ok (.if_icmp .ge 20, 3) := by decide +kernel
theorem dX6_dryIn_9 : decode cX6_dryIn 9 = .ok (.aload_n 0, 1) := by decide +kernel
theorem dX6_dryIn_10 : decode cX6_dryIn 10 = .ok (.invokevirtual 138, 3) := by decide +kernel
theorem dX6_dryIn_13 : decode cX6_dryIn 13 = .ok (.iload_n 2, 1) := by decide +kernel
theorem dX6_dryIn_14 : decode cX6_dryIn 14 = .ok (.aload_n 0, 1) := by decide +kernel
theorem dX6_dryIn_15 : decode cX6_dryIn 15 = .ok (.getfield 131, 3) := by decide +kernel
theorem dX6_dryIn_18 : decode cX6_dryIn 18 = .ok (.ior, 1) := by decide +kernel
theorem dX6_dryIn_19 : decode cX6_dryIn 19 = .ok (.istore_n 2, 1) := by decide +kernel
theorem dX6_dryIn_20 : decode cX6_dryIn 20 = .ok (.iinc 3 1, 3) := by decide +kernel
theorem dX6_dryIn_23 : decode cX6_dryIn 23 = .ok (.goto (-19), 3) := by decide +kernel
theorem dX6_dryIn_26 : decode cX6_dryIn 26 = .ok (.iload_n 2, 1) := by decide +kernel
theorem dX6_dryIn_27 : decode cX6_dryIn 27 = .ok (.ireturn, 1) := by decide +kernel
set_option maxRecDepth 20000 in
theorem ggX6_go_X6_in : GoodIn wsX6_go wsX6_in := goodIn_r _ [7] (by decide +kernel) (by decide +kernel)
set_option maxRecDepth 20000 in
theorem gX6_go_X6_in : GoodIn wsX6_go (va_wsS RX6 54 yX6_in wsX6_in) := goodIn_app (goodIn_of _ (by decide +kernel)) ggX6_go_X6_in
set_option maxRecDepth 20000 in
theorem ggX6_go_X6_finds : GoodIn wsX6_go wsX6_finds := goodIn_r _ [11, 12, 13, 74, 75, 76, 77, 78, 79, 80, 81, 82, 83, 84, 85, 86, 87, 88, 89, 90] (by decide +kernel) (by decide +kernel)
set_option maxRecDepth 20000 in
theorem gX6_go_X6_finds : GoodIn wsX6_go (wsV RX6 96 RX6 yX6_finds wsX6_finds) := goodIn_app (goodIn_of _ (by decide +kernel)) ggX6_go_X6_finds
set_option maxRecDepth 20000 in
theorem ggX6_go_X6_hours : GoodIn wsX6_go wsX6_hours := goodIn_r _ [17, 18, 19, 20, 6, 21, 22, 2, 23, 24, 25, 26, 27, 28, 29, 30, 31, 32, 33, 34, 35, 36, 37, 38, 39, 40, 41, 42, 43, 44, 45, 46, 47, 48, 49, 50, 51, 52, 53, 54, 55, 56, 57, 58, 59, 60, 61, 62, 63, 64, 65, 66, 67, 68, 69, 70, 71, 72, 73, 74, 75, 76, 77, 78, 79, 80, 81, 82, 83, 84, 85, 86, 87, 88, 89, 90] (by decide +kernel) (by decide +kernel)
set_option maxRecDepth 20000 in
theorem gX6_go_X6_hours : GoodIn wsX6_go (wsV RX6 144 RX6 yX6_hours wsX6_hours) := goodIn_app (goodIn_of _ (by decide +kernel)) ggX6_go_X6_hours
theorem dX6_go_0 : decode cX6_go 0 = .ok (.iload_n 1, 1) := by decide +kernel
theorem dX6_go_1 : decode cX6_go 1 = .ok (.i2l, 1) := by decide +kernel
theorem dX6_go_2 : decode cX6_go 2 = .ok (.lconst 1, 1) := by decide +kernel
theorem dX6_go_3 : decode cX6_go 3 = .ok (.ldc2_w 141, 3) := by decide +kernel
theorem dX6_go_6 : decode cX6_go 6 = .ok (.invokestatic 54, 3) := by decide +kernel
theorem dX6_go_9 : decode cX6_go 9 = .ok (.ifCond .ne 9, 3) := by decide +kernel
theorem dX6_go_12 : decode cX6_go 12 = .ok (.aload_n 0, 1) := by decide +kernel
theorem dX6_go_13 : decode cX6_go 13 = .ok (.iconst 0, 1) := by decide +kernel
theorem dX6_go_14 : decode cX6_go 14 = .ok (.invokevirtual 96, 3) := by decide +kernel
theorem dX6_go_17 : decode cX6_go 17 = .ok (.ireturn, 1) := by decide +kernel
theorem dX6_go_18 : decode cX6_go 18 = .ok (.aload_n 0, 1) := by decide +kernel
theorem dX6_go_19 : decode cX6_go 19 = .ok (.getfield 9, 3) := by decide +kernel
theorem dX6_go_22 : decode cX6_go 22 = .ok (.iconst 0, 1) := by decide +kernel
theorem dX6_go_23 : decode cX6_go 23 = .ok (.iaload, 1) := by decide +kernel
theorem dX6_go_24 : decode cX6_go 24 = .ok (.iload_n 1, 1) := by decide +kernel
theorem dX6_go_25 : decode cX6_go 25 = .ok (.iadd, 1) := by decide +kernel
theorem dX6_go_26 : decode cX6_go 26 = .ok (.ldc 143, 2) := by decide +kernel
theorem dX6_go_28 : decode cX6_go 28 = .ok (.if_icmp .le 9, 3) := by decide +kernel
theorem dX6_go_31 : decode cX6_go 31 = .ok (.aload_n 0, 1) := by decide +kernel
theorem dX6_go_32 : decode cX6_go 32 = .ok (.iconst 4, 1) := by decide +kernel
theorem dX6_go_33 : decode cX6_go 33 = .ok (.invokevirtual 96, 3) := by decide +kernel
theorem dX6_go_36 : decode cX6_go 36 = .ok (.ireturn, 1) := by decide +kernel
theorem dX6_go_37 : decode cX6_go 37 = .ok (.aload_n 0, 1) := by decide +kernel
theorem dX6_go_38 : decode cX6_go 38 = .ok (.iload_n 1, 1) := by decide +kernel
theorem dX6_go_39 : decode cX6_go 39 = .ok (.invokevirtual 144, 3) := by decide +kernel
theorem dX6_go_42 : decode cX6_go 42 = .ok (.aload_n 0, 1) := by decide +kernel
theorem dX6_go_43 : decode cX6_go 43 = .ok (.getfield 9, 3) := by decide +kernel
theorem dX6_go_46 : decode cX6_go 46 = .ok (.iconst 3, 1) := by decide +kernel
theorem dX6_go_47 : decode cX6_go 47 = .ok (.iaload, 1) := by decide +kernel
theorem dX6_go_48 : decode cX6_go 48 = .ok (.ireturn, 1) := by decide +kernel
set_option maxRecDepth 20000 in
theorem ggX6_waters_X6_its : GoodIn wsX6_waters wsX6_its := goodIn_r _ [5, 6, 7, 8, 9, 10, 11, 12, 13, 14, 15, 16, 17, 18, 19, 20, 21, 22, 23] (by decide +kernel) (by decide +kernel)
set_option maxRecDepth 20000 in
theorem gX6_waters_X6_its : GoodIn wsX6_waters (wsV RX6 64 RX6 yX6_its wsX6_its) := goodIn_app (goodIn_of _ (by decide +kernel)) ggX6_waters_X6_its
theorem dX6_waters_0 : decode cX6_waters 0 = .ok (.iconst 0, 1) := by decide +kernel
theorem dX6_waters_1 : decode cX6_waters 1 = .ok (.istore_n 1, 1) := by decide +kernel
theorem dX6_waters_2 : decode cX6_waters 2 = .ok (.iconst 0, 1) := by decide +kernel
theorem dX6_waters_3 : decode cX6_waters 3 = .ok (.istore_n 2, 1) := by decide +kernel
theorem dX6_waters_4 : decode cX6_waters 4 = .ok (.iload_n 2, 1) := by decide +kernel
theorem dX6_waters_5 : decode cX6_waters 5 = .ok (.bipush 11, 2) := by decide +kernel
theorem dX6_waters_7 : decode cX6_waters 7 = .ok (.if_icmp .ge 18, 3) := by decide +kernel
theorem dX6_waters_10 : decode cX6_waters 10 = .ok (.iload_n 1, 1) := by decide +kernel
theorem dX6_waters_11 : decode cX6_waters 11 = .ok (.aload_n 0, 1) := by decide +kernel
theorem dX6_waters_12 : decode cX6_waters 12 = .ok (.iload_n 2, 1) := by decide +kernel
theorem dX6_waters_13 : decode cX6_waters 13 = .ok (.iconst 1, 1) := by decide +kernel
theorem dX6_waters_14 : decode cX6_waters 14 = .ok (.invokevirtual 64, 3) := by decide +kernel
theorem dX6_waters_17 : decode cX6_waters 17 = .ok (.iadd, 1) := by decide +kernel
theorem dX6_waters_18 : decode cX6_waters 18 = .ok (.istore_n 1, 1) := by decide +kernel
theorem dX6_waters_19 : decode cX6_waters 19 = .ok (.iinc 2 1, 3) := by decide +kernel
theorem dX6_waters_22 : decode cX6_waters 22 = .ok (.goto (-18), 3) := by decide +kernel
theorem dX6_waters_25 : decode cX6_waters 25 = .ok (.iload_n 1, 1) := by decide +kernel
theorem dX6_waters_26 : decode cX6_waters 26 = .ok (.ireturn, 1) := by decide +kernel
set_option maxRecDepth 20000 in
theorem ggX6_dryEver_X6_its : GoodIn wsX6_dryEver wsX6_its := goodIn_r _ [5, 6, 7, 8, 9, 10, 11, 12, 13, 14, 15, 16, 17, 18, 19, 20, 21, 22, 23] (by decide +kernel) (by decide +kernel)
set_option maxRecDepth 20000 in
theorem gX6_dryEver_X6_its : GoodIn wsX6_dryEver (wsV RX6 64 RX6 yX6_its wsX6_its) := goodIn_app (goodIn_of _ (by decide +kernel)) ggX6_dryEver_X6_its
theorem dX6_dryEver_0 : decode cX6_dryEver 0 = .ok (.iconst 0, 1) := by decide +kernel
theorem dX6_dryEver_1 : decode cX6_dryEver 1 = .ok (.istore_n 1, 1) := by decide +kernel
theorem dX6_dryEver_2 : decode cX6_dryEver 2 = .ok (.iconst 0, 1) := by decide +kernel
theorem dX6_dryEver_3 : decode cX6_dryEver 3 = .ok (.istore_n 2, 1) := by decide +kernel
theorem dX6_dryEver_4 : decode cX6_dryEver 4 = .ok (.iload_n 2, 1) := by decide +kernel
theorem dX6_dryEver_5 : decode cX6_dryEver 5 = .ok (.bipush 11, 2) := by decide +kernel
theorem dX6_dryEver_7 : decode cX6_dryEver 7 = .ok (.if_icmp .ge 28, 3) := by decide +kernel
theorem dX6_dryEver_10 : decode cX6_dryEver 10 = .ok (.iload_n 1, 1) := by decide +kernel
theorem dX6_dryEver_11 : decode cX6_dryEver 11 = .ok (.aload_n 0, 1) := by decide +kernel
theorem dX6_dryEver_12 : decode cX6_dryEver 12 = .ok (.iload_n 2, 1) := by decide +kernel
theorem dX6_dryEver_13 : decode cX6_dryEver 13 = .ok (.iconst 5, 1) := by decide +kernel
theorem dX6_dryEver_14 : decode cX6_dryEver 14 = .ok (.invokevirtual 64, 3) := by decide +kernel
theorem dX6_dryEver_17 : decode cX6_dryEver 17 = .ok (.ifCond .le 9, 3) := by decide +kernel
theorem dX6_dryEver_20 : decode cX6_dryEver 20 = .ok (.iconst 1, 1) := by decide +kernel
theorem dX6_dryEver_21 : decode cX6_dryEver 21 = .ok (.iload_n 2, 1) := by decide +kernel
theorem dX6_dryEver_22 : decode cX6_dryEver 22 = .ok (.ishl, 1) := by decide +kernel
theorem dX6_dryEver_23 : decode cX6_dryEver 23 = .ok (.goto 4, 3) := by decide +kernel
theorem dX6_dryEver_26 : decode cX6_dryEver 26 = .ok (.iconst 0, 1) := by decide +kernel
theorem dX6_dryEver_27 : decode cX6_dryEver 27 = .ok (.ior, 1) := by decide +kernel
theorem dX6_dryEver_28 : decode cX6_dryEver 28 = .ok (.istore_n 1, 1) := by decide +kernel
theorem dX6_dryEver_29 : decode cX6_dryEver 29 = .ok (.iinc 2 1, 3) := by decide +kernel
theorem dX6_dryEver_32 : decode cX6_dryEver 32 = .ok (.goto (-28), 3) := by decide +kernel
theorem dX6_dryEver_35 : decode cX6_dryEver 35 = .ok (.iload_n 1, 1) := by decide +kernel
theorem dX6_dryEver_36 : decode cX6_dryEver 36 = .ok (.ireturn, 1) := by decide +kernel
set_option maxRecDepth 20000 in
theorem ggX6_now_X6_waters : GoodIn wsX6_now wsX6_waters := goodIn_r _ [6, 7, 8, 9, 5, 10, 1, 25, 26, 27, 28, 29, 30, 31, 32, 33, 34, 35, 36, 37, 38, 39, 40, 41] (by decide +kernel) (by decide +kernel)
set_option maxRecDepth 20000 in
theorem gX6_now_X6_waters : GoodIn wsX6_now (wsV RX6 147 RX6 yX6_waters wsX6_waters) := goodIn_app (goodIn_of _ (by decide +kernel)) ggX6_now_X6_waters
set_option maxRecDepth 20000 in
theorem ggX6_now_X6_dryEver : GoodIn wsX6_now wsX6_dryEver := goodIn_r _ [14, 7, 8, 9, 5, 10, 1, 25, 26, 27, 28, 29, 30, 31, 32, 33, 34, 35, 36, 37, 38, 39, 40, 41] (by decide +kernel) (by decide +kernel)
set_option maxRecDepth 20000 in
theorem gX6_now_X6_dryEver : GoodIn wsX6_now (wsV RX6 150 RX6 yX6_dryEver wsX6_dryEver) := goodIn_app (goodIn_of _ (by decide +kernel)) ggX6_now_X6_dryEver
set_option maxRecDepth 20000 in
theorem ggX6_now_X6_spoutSet : GoodIn wsX6_now wsX6_spoutSet := goodIn_r _ [18, 7, 8, 9, 5, 10, 1, 25, 26, 27, 28, 29, 30, 31, 32, 33, 34, 35, 36, 37, 38, 39, 40, 41] (by decide +kernel) (by decide +kernel)
set_option maxRecDepth 20000 in
theorem gX6_now_X6_spoutSet : GoodIn wsX6_now (wsV RX6 115 RX6 yX6_spoutSet wsX6_spoutSet) := goodIn_app (goodIn_of _ (by decide +kernel)) ggX6_now_X6_spoutSet
set_option maxRecDepth 20000 in
theorem ggX6_now_X6_finds : GoodIn wsX6_now wsX6_finds := goodIn_r _ [22, 23, 24, 25, 26, 27, 28, 29, 30, 31, 32, 33, 34, 35, 36, 37, 38, 39, 40, 41] (by decide +kernel) (by decide +kernel)
set_option maxRecDepth 20000 in
theorem gX6_now_X6_finds : GoodIn wsX6_now (wsV RX6 96 RX6 yX6_finds wsX6_finds) := goodIn_app (goodIn_of _ (by decide +kernel)) ggX6_now_X6_finds
theorem dX6_now_0 : decode cX6_now 0 = .ok (.iload_n 1, 1) := by decide +kernel
theorem dX6_now_1 : decode cX6_now 1 = .ok (.tableswitch 86 0 6 #[43, 50, 55, 62, 69, 74, 79], 43) := by decide +kernel
theorem dX6_now_44 : decode cX6_now 44 = .ok (.aload_n 0, 1) := by decide +kernel
theorem dX6_now_45 : decode cX6_now 45 = .ok (.getfield 9, 3) := by decide +kernel
theorem dX6_now_48 : decode cX6_now 48 = .ok (.iconst 0, 1) := by decide +kernel
theorem dX6_now_49 : decode cX6_now 49 = .ok (.iaload, 1) := by decide +kernel
theorem dX6_now_50 : decode cX6_now 50 = .ok (.ireturn, 1) := by decide +kernel
theorem dX6_now_51 : decode cX6_now 51 = .ok (.aload_n 0, 1) := by decide +kernel
theorem dX6_now_52 : decode cX6_now 52 = .ok (.invokevirtual 147, 3) := by decide +kernel
theorem dX6_now_55 : decode cX6_now 55 = .ok (.ireturn, 1) := by decide +kernel
theorem dX6_now_56 : decode cX6_now 56 = .ok (.aload_n 0, 1) := by decide +kernel
theorem dX6_now_57 : decode cX6_now 57 = .ok (.getfield 9, 3) := by decide +kernel
theorem dX6_now_60 : decode cX6_now 60 = .ok (.iconst 3, 1) := by decide +kernel
theorem dX6_now_61 : decode cX6_now 61 = .ok (.iaload, 1) := by decide +kernel
theorem dX6_now_62 : decode cX6_now 62 = .ok (.ireturn, 1) := by decide +kernel
theorem dX6_now_63 : decode cX6_now 63 = .ok (.aload_n 0, 1) := by decide +kernel
theorem dX6_now_64 : decode cX6_now 64 = .ok (.getfield 9, 3) := by decide +kernel
theorem dX6_now_67 : decode cX6_now 67 = .ok (.iconst 4, 1) := by decide +kernel
theorem dX6_now_68 : decode cX6_now 68 = .ok (.iaload, 1) := by decide +kernel
theorem dX6_now_69 : decode cX6_now 69 = .ok (.ireturn, 1) := by decide +kernel
theorem dX6_now_70 : decode cX6_now 70 = .ok (.aload_n 0, 1) := by decide +kernel
theorem dX6_now_71 : decode cX6_now 71 = .ok (.invokevirtual 150, 3) := by decide +kernel
theorem dX6_now_74 : decode cX6_now 74 = .ok (.ireturn, 1) := by decide +kernel
theorem dX6_now_75 : decode cX6_now 75 = .ok (.aload_n 0, 1) := by decide +kernel
theorem dX6_now_76 : decode cX6_now 76 = .ok (.invokevirtual 115, 3) := by decide +kernel
theorem dX6_now_79 : decode cX6_now 79 = .ok (.ireturn, 1) := by decide +kernel
theorem dX6_now_80 : decode cX6_now 80 = .ok (.aload_n 0, 1) := by decide +kernel
theorem dX6_now_81 : decode cX6_now 81 = .ok (.getfield 9, 3) := by decide +kernel
theorem dX6_now_84 : decode cX6_now 84 = .ok (.iconst 2, 1) := by decide +kernel
theorem dX6_now_85 : decode cX6_now 85 = .ok (.iaload, 1) := by decide +kernel
theorem dX6_now_86 : decode cX6_now 86 = .ok (.ireturn, 1) := by decide +kernel
theorem dX6_now_87 : decode cX6_now 87 = .ok (.aload_n 0, 1) := by decide +kernel
theorem dX6_now_88 : decode cX6_now 88 = .ok (.iconst 0, 1) := by decide +kernel
theorem dX6_now_89 : decode cX6_now 89 = .ok (.invokevirtual 96, 3) := by decide +kernel
theorem dX6_now_92 : decode cX6_now 92 = .ok (.ireturn, 1) := by decide +kernel
set_option maxRecDepth 20000 in
theorem ggX6_isAhead_X6_in : GoodIn wsX6_isAhead wsX6_in := goodIn_r _ [5] (by decide +kernel) (by decide +kernel)
set_option maxRecDepth 20000 in
theorem gX6_isAhead_X6_in : GoodIn wsX6_isAhead (va_wsS RX6 54 yX6_in wsX6_in) := goodIn_app (goodIn_of _ (by decide +kernel)) ggX6_isAhead_X6_in
theorem dX6_isAhead_0 : decode cX6_isAhead 0 = .ok (.iload_n 0, 1) := by decide +kernel
theorem dX6_isAhead_1 : decode cX6_isAhead 1 = .ok (.i2l, 1) := by decide +kernel
theorem dX6_isAhead_2 : decode cX6_isAhead 2 = .ok (.lconst 0, 1) := by decide +kernel
theorem dX6_isAhead_3 : decode cX6_isAhead 3 = .ok (.ldc2_w 153, 3) := by decide +kernel
theorem dX6_isAhead_6 : decode cX6_isAhead 6 = .ok (.invokestatic 54, 3) := by decide +kernel
theorem dX6_isAhead_9 : decode cX6_isAhead 9 = .ok (.ireturn, 1) := by decide +kernel
set_option maxRecDepth 20000 in
theorem ggX6_isSoon_X6_in : GoodIn wsX6_isSoon wsX6_in := goodIn_r _ [5] (by decide +kernel) (by decide +kernel)
set_option maxRecDepth 20000 in
theorem gX6_isSoon_X6_in : GoodIn wsX6_isSoon (va_wsS RX6 54 yX6_in wsX6_in) := goodIn_app (goodIn_of _ (by decide +kernel)) ggX6_isSoon_X6_in
theorem dX6_isSoon_0 : decode cX6_isSoon 0 = .ok (.iload_n 0, 1) := by decide +kernel
theorem dX6_isSoon_1 : decode cX6_isSoon 1 = .ok (.i2l, 1) := by decide +kernel
theorem dX6_isSoon_2 : decode cX6_isSoon 2 = .ok (.lconst 0, 1) := by decide +kernel
theorem dX6_isSoon_3 : decode cX6_isSoon 3 = .ok (.ldc2_w 155, 3) := by decide +kernel
theorem dX6_isSoon_6 : decode cX6_isSoon 6 = .ok (.invokestatic 54, 3) := by decide +kernel
theorem dX6_isSoon_9 : decode cX6_isSoon 9 = .ok (.ireturn, 1) := by decide +kernel
set_option maxRecDepth 20000 in
theorem ggX6_ahead_X6_isHouse : GoodIn wsX6_ahead wsX6_isHouse := goodIn_r _ [4, 5, 6, 7, 3, 8] (by decide +kernel) (by decide +kernel)
set_option maxRecDepth 20000 in
theorem gX6_ahead_X6_isHouse : GoodIn wsX6_ahead (va_wsS RX6 87 yX6_isHouse wsX6_isHouse) := goodIn_app (goodIn_of _ (by decide +kernel)) ggX6_ahead_X6_isHouse
set_option maxRecDepth 20000 in
theorem ggX6_ahead_X6_isAhead : GoodIn wsX6_ahead wsX6_isAhead := goodIn_r _ [11, 12, 6, 7, 3, 8] (by decide +kernel) (by decide +kernel)
set_option maxRecDepth 20000 in
theorem gX6_ahead_X6_isAhead : GoodIn wsX6_ahead (va_wsS RX6 157 yX6_isAhead wsX6_isAhead) := goodIn_app (goodIn_of _ (by decide +kernel)) ggX6_ahead_X6_isAhead
set_option maxRecDepth 20000 in
theorem ggX6_ahead_X6_finds : GoodIn wsX6_ahead wsX6_finds := goodIn_r _ [16, 17, 18, 92, 93, 94, 95, 96, 97, 98, 99, 100, 101, 102, 103, 104, 105, 106, 107, 108] (by decide +kernel) (by decide +kernel)
set_option maxRecDepth 20000 in
theorem gX6_ahead_X6_finds : GoodIn wsX6_ahead (wsV RX6 96 RX6 yX6_finds wsX6_finds) := goodIn_app (goodIn_of _ (by decide +kernel)) ggX6_ahead_X6_finds
set_option maxRecDepth 20000 in
theorem ggX6_ahead_X6_lends : GoodIn wsX6_ahead wsX6_lends := goodIn_r _ [22, 23, 24, 25, 26, 3, 27, 92, 93, 94, 95, 96, 97, 98, 99, 100, 101, 102, 103, 104, 105, 106, 107, 108] (by decide +kernel) (by decide +kernel)
set_option maxRecDepth 20000 in
theorem gX6_ahead_X6_lends : GoodIn wsX6_ahead (wsV RX6 160 RX6 yX6_lends wsX6_lends) := goodIn_app (goodIn_of _ (by decide +kernel)) ggX6_ahead_X6_lends
set_option maxRecDepth 20000 in
theorem ggX6_ahead_X6_hours : GoodIn wsX6_ahead wsX6_hours := goodIn_r _ [31, 32, 33, 34, 3, 35, 36, 23, 37, 38, 39, 40, 41, 42, 43, 44, 45, 46, 47, 48, 49, 50, 51, 52, 53, 54, 55, 56, 57, 58, 59, 60, 61, 62, 63, 64, 65, 66, 67, 68, 69, 70, 71, 72, 73, 74, 75, 76, 77, 78, 79, 80, 81, 82, 83, 84, 85, 86, 87, 92, 93, 94, 95, 96, 97, 98, 99, 100, 101, 102, 103, 104, 105, 106, 107, 108] (by decide +kernel) (by decide +kernel)
set_option maxRecDepth 20000 in
theorem gX6_ahead_X6_hours : GoodIn wsX6_ahead (wsV RX6 144 RX6 yX6_hours wsX6_hours) := goodIn_app (goodIn_of _ (by decide +kernel)) ggX6_ahead_X6_hours
set_option maxRecDepth 20000 in
theorem ggX6_ahead_X6_its : GoodIn wsX6_ahead wsX6_its := goodIn_r _ [53, 23, 92, 93, 94, 95, 96, 97, 98, 99, 100, 101, 102, 103, 104, 105, 106, 107, 108] (by decide +kernel) (by decide +kernel)
set_option maxRecDepth 20000 in
theorem gX6_ahead_X6_its : GoodIn wsX6_ahead (wsV RX6 64 RX6 yX6_its wsX6_its) := goodIn_app (goodIn_of _ (by decide +kernel)) ggX6_ahead_X6_its
set_option maxRecDepth 20000 in
theorem ggX6_ahead_X6_laysBack : GoodIn wsX6_ahead wsX6_laysBack := goodIn_r _ [91, 24, 23, 25, 26, 3, 27, 92, 93, 94, 95, 96, 97, 98, 99, 100, 101, 102, 103, 104, 105, 106, 107, 108] (by decide +kernel) (by decide +kernel)
set_option maxRecDepth 20000 in
theorem gX6_ahead_X6_laysBack : GoodIn wsX6_ahead (wsV RX6 163 RX6 yX6_laysBack wsX6_laysBack) := goodIn_app (goodIn_of _ (by decide +kernel)) ggX6_ahead_X6_laysBack
theorem dX6_ahead_0 : decode cX6_ahead 0 = .ok (.iload_n 1, 1) := by decide +kernel
theorem dX6_ahead_1 : decode cX6_ahead 1 = .ok (.invokestatic 87, 3) := by decide +kernel
theorem dX6_ahead_4 : decode cX6_ahead 4 = .ok (.ifCond .eq 20, 3) := by decide +kernel
theorem dX6_ahead_7 : decode cX6_ahead 7 = .ok (.iload_n 2, 1) := by decide +kernel
theorem dX6_ahead_8 : decode cX6_ahead 8 = .ok (.iconst 1, 1) := by decide +kernel
theorem dX6_ahead_9 : decode cX6_ahead 9 = .ok (.if_icmp .eq 8, 3) := by decide +kernel
theorem dX6_ahead_12 : decode cX6_ahead 12 = .ok (.iload_n 2, 1) := by decide +kernel
theorem dX6_ahead_13 : decode cX6_ahead 13 = .ok (.iconst 5, 1) := by decide +kernel
theorem dX6_ahead_14 : decode cX6_ahead 14 = .ok (.if_icmp .ne 10, 3) := by decide +kernel
theorem dX6_ahead_17 : decode cX6_ahead 17 = .ok (.iload_n 3, 1) := by decide +kernel
theorem dX6_ahead_18 : decode cX6_ahead 18 = .ok (.invokestatic 157, 3) := by decide +kernel
theorem dX6_ahead_21 : decode cX6_ahead 21 = .ok (.ifCond .ne 9, 3) := by decide +kernel
theorem dX6_ahead_24 : decode cX6_ahead 24 = .ok (.aload_n 0, 1) := by decide +kernel
theorem dX6_ahead_25 : decode cX6_ahead 25 = .ok (.iconst 0, 1) := by decide +kernel
theorem dX6_ahead_26 : decode cX6_ahead 26 = .ok (.invokevirtual 96, 3) := by decide +kernel
theorem dX6_ahead_29 : decode cX6_ahead 29 = .ok (.ireturn, 1) := by decide +kernel
theorem dX6_ahead_30 : decode cX6_ahead 30 = .ok (.aload_n 0, 1) := by decide +kernel
theorem dX6_ahead_31 : decode cX6_ahead 31 = .ok (.invokevirtual 160, 3) := by decide +kernel
theorem dX6_ahead_34 : decode cX6_ahead 34 = .ok (.aload_n 0, 1) := by decide +kernel
theorem dX6_ahead_35 : decode cX6_ahead 35 = .ok (.iload_n 3, 1) := by decide +kernel
theorem dX6_ahead_36 : decode cX6_ahead 36 = .ok (.invokevirtual 144, 3) := by decide +kernel
theorem dX6_ahead_39 : decode cX6_ahead 39 = .ok (.aload_n 0, 1) := by decide +kernel
theorem dX6_ahead_40 : decode cX6_ahead 40 = .ok (.iload_n 1, 1) := by decide +kernel
theorem dX6_ahead_41 : decode cX6_ahead 41 = .ok (.iload_n 2, 1) := by decide +kernel
theorem dX6_ahead_42 : decode cX6_ahead 42 = .ok (.invokevirtual 64, 3) := by decide +kernel
theorem dX6_ahead_45 : decode cX6_ahead 45 = .ok (.istore 4, 2) := by decide +kernel
theorem dX6_ahead_47 : decode cX6_ahead 47 = .ok (.aload_n 0, 1) := by decide +kernel
theorem dX6_ahead_48 : decode cX6_ahead 48 = .ok (.invokevirtual 163, 3) := by decide +kernel
theorem dX6_ahead_51 : decode cX6_ahead 51 = .ok (.iload 4, 2) := by decide +kernel
theorem dX6_ahead_53 : decode cX6_ahead 53 = .ok (.ireturn, 1) := by decide +kernel
set_option maxRecDepth 20000 in
theorem ggX6_alleyIn_X6_hours : GoodIn wsX6_alleyIn wsX6_hours := goodIn_r _ [6, 7, 8, 9, 5, 10, 11, 1, 12, 13, 14, 15, 16, 17, 18, 19, 20, 21, 22, 23, 24, 25, 26, 27, 28, 29, 30, 31, 32, 33, 34, 35, 36, 37, 38, 39, 40, 41, 42, 43, 44, 45, 46, 47, 48, 49, 50, 51, 52, 53, 54, 55, 56, 57, 58, 59, 60, 61, 62, 71, 72, 73, 74, 75, 76, 77, 78, 79, 80, 81, 82, 83, 84, 85, 86, 87] (by decide +kernel) (by decide +kernel)
set_option maxRecDepth 20000 in
theorem gX6_alleyIn_X6_hours : GoodIn wsX6_alleyIn (wsV RX6 144 RX6 yX6_hours wsX6_hours) := goodIn_app (goodIn_of _ (by decide +kernel)) ggX6_alleyIn_X6_hours
set_option maxRecDepth 20000 in
theorem ggX6_alleyIn_X6_laysBack : GoodIn wsX6_alleyIn wsX6_laysBack := goodIn_r _ [66, 67, 1, 68, 69, 5, 70, 71, 72, 73, 74, 75, 76, 77, 78, 79, 80, 81, 82, 83, 84, 85, 86, 87] (by decide +kernel) (by decide +kernel)
set_option maxRecDepth 20000 in
theorem gX6_alleyIn_X6_laysBack : GoodIn wsX6_alleyIn (wsV RX6 163 RX6 yX6_laysBack wsX6_laysBack) := goodIn_app (goodIn_of _ (by decide +kernel)) ggX6_alleyIn_X6_laysBack
theorem dX6_alleyIn_0 : decode cX6_alleyIn 0 = .ok (.aload_n 0, 1) := by decide +kernel
theorem dX6_alleyIn_1 : decode cX6_alleyIn 1 = .ok (.iload_n 1, 1) := by decide +kernel
theorem dX6_alleyIn_2 : decode cX6_alleyIn 2 = .ok (.invokevirtual 144, 3) := by decide +kernel
theorem dX6_alleyIn_5 : decode cX6_alleyIn 5 = .ok (.aload_n 0, 1) := by decide +kernel
theorem dX6_alleyIn_6 : decode cX6_alleyIn 6 = .ok (.getfield 9, 3) := by decide +kernel
theorem dX6_alleyIn_9 : decode cX6_alleyIn 9 = .ok (.iconst 3, 1) := by decide +kernel
theorem dX6_alleyIn_10 : decode cX6_alleyIn 10 = .ok (.iaload, 1) := by decide +kernel
theorem dX6_alleyIn_11 : decode cX6_alleyIn 11 = .ok (.istore_n 2, 1) := by decide +kernel
theorem dX6_alleyIn_12 : decode cX6_alleyIn 12 = .ok (.aload_n 0, 1) := by decide +kernel
theorem dX6_alleyIn_13 : decode cX6_alleyIn 13 = .ok (.invokevirtual 163, 3) := by decide +kernel
theorem dX6_alleyIn_16 : decode cX6_alleyIn 16 = .ok (.iload_n 2, 1) := by decide +kernel
theorem dX6_alleyIn_17 : decode cX6_alleyIn 17 = .ok (.ireturn, 1) := by decide +kernel
set_option maxRecDepth 20000 in
theorem ggX6_alley_X6_isAhead : GoodIn wsX6_alley wsX6_isAhead := goodIn_r _ [4, 5, 6, 7, 3, 8] (by decide +kernel) (by decide +kernel)
set_option maxRecDepth 20000 in
theorem gX6_alley_X6_isAhead : GoodIn wsX6_alley (va_wsS RX6 157 yX6_isAhead wsX6_isAhead) := goodIn_app (goodIn_of _ (by decide +kernel)) ggX6_alley_X6_isAhead
set_option maxRecDepth 20000 in
theorem ggX6_alley_X6_finds : GoodIn wsX6_alley wsX6_finds := goodIn_r _ [12, 13, 14, 92, 93, 94, 95, 96, 97, 98, 99, 100, 101, 102, 103, 104, 105, 106, 107, 108] (by decide +kernel) (by decide +kernel)
set_option maxRecDepth 20000 in
theorem gX6_alley_X6_finds : GoodIn wsX6_alley (wsV RX6 96 RX6 yX6_finds wsX6_finds) := goodIn_app (goodIn_of _ (by decide +kernel)) ggX6_alley_X6_finds
set_option maxRecDepth 20000 in
theorem ggX6_alley_X6_lends : GoodIn wsX6_alley wsX6_lends := goodIn_r _ [18, 19, 20, 21, 22, 3, 23, 92, 93, 94, 95, 96, 97, 98, 99, 100, 101, 102, 103, 104, 105, 106, 107, 108] (by decide +kernel) (by decide +kernel)
set_option maxRecDepth 20000 in
theorem gX6_alley_X6_lends : GoodIn wsX6_alley (wsV RX6 160 RX6 yX6_lends wsX6_lends) := goodIn_app (goodIn_of _ (by decide +kernel)) ggX6_alley_X6_lends
set_option maxRecDepth 20000 in
theorem ggX6_alley_X6_alleyIn : GoodIn wsX6_alley wsX6_alleyIn := goodIn_r _ [27, 19, 28, 29, 30, 3, 31, 32, 33, 34, 35, 36, 37, 38, 39, 40, 41, 42, 43, 44, 45, 46, 47, 48, 49, 50, 51, 52, 53, 54, 55, 56, 57, 58, 59, 60, 61, 62, 63, 64, 65, 66, 67, 68, 69, 70, 71, 72, 73, 74, 75, 76, 77, 78, 79, 80, 81, 82, 83, 84, 85, 86, 87, 88, 89, 90, 91, 20, 21, 22, 23, 92, 93, 94, 95, 96, 97, 98, 99, 100, 101, 102, 103, 104, 105, 106, 107, 108] (by decide +kernel) (by decide +kernel)
set_option maxRecDepth 20000 in
theorem gX6_alley_X6_alleyIn : GoodIn wsX6_alley (wsV RX6 166 RX6 yX6_alleyIn wsX6_alleyIn) := goodIn_app (goodIn_of _ (by decide +kernel)) ggX6_alley_X6_alleyIn
theorem dX6_alley_0 : decode cX6_alley 0 = .ok (.iload_n 1, 1) := by decide +kernel
theorem dX6_alley_1 : decode cX6_alley 1 = .ok (.invokestatic 157, 3) := by decide +kernel
theorem dX6_alley_4 : decode cX6_alley 4 = .ok (.ifCond .ne 9, 3) := by decide +kernel
theorem dX6_alley_7 : decode cX6_alley 7 = .ok (.aload_n 0, 1) := by decide +kernel
theorem dX6_alley_8 : decode cX6_alley 8 = .ok (.iconst 0, 1) := by decide +kernel
theorem dX6_alley_9 : decode cX6_alley 9 = .ok (.invokevirtual 96, 3) := by decide +kernel
theorem dX6_alley_12 : decode cX6_alley 12 = .ok (.ireturn, 1) := by decide +kernel
theorem dX6_alley_13 : decode cX6_alley 13 = .ok (.aload_n 0, 1) := by decide +kernel
theorem dX6_alley_14 : decode cX6_alley 14 = .ok (.invokevirtual 160, 3) := by decide +kernel
theorem dX6_alley_17 : decode cX6_alley 17 = .ok (.aload_n 0, 1) := by decide +kernel
theorem dX6_alley_18 : decode cX6_alley 18 = .ok (.iload_n 1, 1) := by decide +kernel
theorem dX6_alley_19 : decode cX6_alley 19 = .ok (.invokevirtual 166, 3) := by decide +kernel
theorem dX6_alley_22 : decode cX6_alley 22 = .ok (.ireturn, 1) := by decide +kernel
set_option maxRecDepth 20000 in
theorem ggX6_dry_X6_isAhead : GoodIn wsX6_dry wsX6_isAhead := goodIn_r _ [4, 5, 6, 7, 3, 8] (by decide +kernel) (by decide +kernel)
set_option maxRecDepth 20000 in
theorem gX6_dry_X6_isAhead : GoodIn wsX6_dry (va_wsS RX6 157 yX6_isAhead wsX6_isAhead) := goodIn_app (goodIn_of _ (by decide +kernel)) ggX6_dry_X6_isAhead
set_option maxRecDepth 20000 in
theorem ggX6_dry_X6_finds : GoodIn wsX6_dry wsX6_finds := goodIn_r _ [12, 13, 14, 88, 89, 90, 91, 92, 93, 94, 95, 96, 97, 98, 99, 100, 101, 102, 103, 104] (by decide +kernel) (by decide +kernel)
set_option maxRecDepth 20000 in
theorem gX6_dry_X6_finds : GoodIn wsX6_dry (wsV RX6 96 RX6 yX6_finds wsX6_finds) := goodIn_app (goodIn_of _ (by decide +kernel)) ggX6_dry_X6_finds
set_option maxRecDepth 20000 in
theorem ggX6_dry_X6_lends : GoodIn wsX6_dry wsX6_lends := goodIn_r _ [18, 19, 20, 21, 22, 3, 23, 88, 89, 90, 91, 92, 93, 94, 95, 96, 97, 98, 99, 100, 101, 102, 103, 104] (by decide +kernel) (by decide +kernel)
set_option maxRecDepth 20000 in
theorem gX6_dry_X6_lends : GoodIn wsX6_dry (wsV RX6 160 RX6 yX6_lends wsX6_lends) := goodIn_app (goodIn_of _ (by decide +kernel)) ggX6_dry_X6_lends
set_option maxRecDepth 20000 in
theorem ggX6_dry_X6_dryIn : GoodIn wsX6_dry wsX6_dryIn := goodIn_r _ [27, 28, 29, 30, 31, 3, 32, 19, 33, 34, 35, 36, 37, 38, 39, 40, 41, 42, 43, 44, 45, 46, 47, 48, 49, 50, 51, 52, 53, 54, 55, 56, 57, 58, 59, 60, 61, 62, 63, 64, 65, 66, 67, 68, 69, 70, 71, 72, 73, 74, 75, 76, 77, 78, 79, 80, 81, 82, 83, 88, 89, 90, 91, 92, 93, 94, 95, 96, 97, 98, 99, 100, 101, 102, 103, 104] (by decide +kernel) (by decide +kernel)
set_option maxRecDepth 20000 in
theorem gX6_dry_X6_dryIn : GoodIn wsX6_dry (wsV RX6 169 RX6 yX6_dryIn wsX6_dryIn) := goodIn_app (goodIn_of _ (by decide +kernel)) ggX6_dry_X6_dryIn
set_option maxRecDepth 20000 in
theorem ggX6_dry_X6_laysBack : GoodIn wsX6_dry wsX6_laysBack := goodIn_r _ [87, 20, 19, 21, 22, 3, 23, 88, 89, 90, 91, 92, 93, 94, 95, 96, 97, 98, 99, 100, 101, 102, 103, 104] (by decide +kernel) (by decide +kernel)
set_option maxRecDepth 20000 in
theorem gX6_dry_X6_laysBack : GoodIn wsX6_dry (wsV RX6 163 RX6 yX6_laysBack wsX6_laysBack) := goodIn_app (goodIn_of _ (by decide +kernel)) ggX6_dry_X6_laysBack
theorem dX6_dry_0 : decode cX6_dry 0 = .ok (.iload_n 1, 1) := by decide +kernel
theorem dX6_dry_1 : decode cX6_dry 1 = .ok (.invokestatic 157, 3) := by decide +kernel
theorem dX6_dry_4 : decode cX6_dry 4 = .ok (.ifCond .ne 9, 3) := by decide +kernel
theorem dX6_dry_7 : decode cX6_dry 7 = .ok (.aload_n 0, 1) := by decide +kernel
theorem dX6_dry_8 : decode cX6_dry 8 = .ok (.iconst 0, 1) := by decide +kernel
theorem dX6_dry_9 : decode cX6_dry 9 = .ok (.invokevirtual 96, 3) := by decide +kernel
theorem dX6_dry_12 : decode cX6_dry 12 = .ok (.ireturn, 1) := by decide +kernel
theorem dX6_dry_13 : decode cX6_dry 13 = .ok (.aload_n 0, 1) := by decide +kernel
theorem dX6_dry_14 : decode cX6_dry 14 = .ok (.invokevirtual 160, 3) := by decide +kernel
theorem dX6_dry_17 : decode cX6_dry 17 = .ok (.aload_n 0, 1) := by decide +kernel
theorem dX6_dry_18 : decode cX6_dry 18 = .ok (.iload_n 1, 1) := by decide +kernel
theorem dX6_dry_19 : decode cX6_dry 19 = .ok (.invokevirtual 169, 3) := by decide +kernel
theorem dX6_dry_22 : decode cX6_dry 22 = .ok (.istore_n 2, 1) := by decide +kernel
theorem dX6_dry_23 : decode cX6_dry 23 = .ok (.aload_n 0, 1) := by decide +kernel
theorem dX6_dry_24 : decode cX6_dry 24 = .ok (.invokevirtual 163, 3) := by decide +kernel
theorem dX6_dry_27 : decode cX6_dry 27 = .ok (.iload_n 2, 1) := by decide +kernel
theorem dX6_dry_28 : decode cX6_dry 28 = .ok (.ireturn, 1) := by decide +kernel
set_option maxRecDepth 20000 in
theorem ggX6_when_X6_isHouse : GoodIn wsX6_when wsX6_isHouse := goodIn_r _ [5, 6, 7, 8, 4, 9] (by decide +kernel) (by decide +kernel)
set_option maxRecDepth 20000 in
theorem gX6_when_X6_isHouse : GoodIn wsX6_when (va_wsS RX6 87 yX6_isHouse wsX6_isHouse) := goodIn_app (goodIn_of _ (by decide +kernel)) ggX6_when_X6_isHouse
set_option maxRecDepth 20000 in
theorem ggX6_when_X6_in : GoodIn wsX6_when wsX6_in := goodIn_r _ [9] (by decide +kernel) (by decide +kernel)
set_option maxRecDepth 20000 in
theorem gX6_when_X6_in : GoodIn wsX6_when (va_wsS RX6 54 yX6_in wsX6_in) := goodIn_app (goodIn_of _ (by decide +kernel)) ggX6_when_X6_in
set_option maxRecDepth 20000 in
theorem ggX6_when_X6_finds : GoodIn wsX6_when wsX6_finds := goodIn_r _ [13, 14, 15, 85, 86, 87, 88, 89, 90, 91, 92, 93, 94, 95, 96, 97, 98, 99, 100, 101] (by decide +kernel) (by decide +kernel)
set_option maxRecDepth 20000 in
theorem gX6_when_X6_finds : GoodIn wsX6_when (wsV RX6 96 RX6 yX6_finds wsX6_finds) := goodIn_app (goodIn_of _ (by decide +kernel)) ggX6_when_X6_finds
set_option maxRecDepth 20000 in
theorem ggX6_when_X6_lends : GoodIn wsX6_when wsX6_lends := goodIn_r _ [19, 20, 21, 22, 23, 4, 24, 85, 86, 87, 88, 89, 90, 91, 92, 93, 94, 95, 96, 97, 98, 99, 100, 101] (by decide +kernel) (by decide +kernel)
set_option maxRecDepth 20000 in
theorem gX6_when_X6_lends : GoodIn wsX6_when (wsV RX6 160 RX6 yX6_lends wsX6_lends) := goodIn_app (goodIn_of _ (by decide +kernel)) ggX6_when_X6_lends
set_option maxRecDepth 20000 in
theorem ggX6_when_X6_its : GoodIn wsX6_when wsX6_its := goodIn_r _ [28, 20, 85, 86, 87, 88, 89, 90, 91, 92, 93, 94, 95, 96, 97, 98, 99, 100, 101] (by decide +kernel) (by decide +kernel)
set_option maxRecDepth 20000 in
theorem gX6_when_X6_its : GoodIn wsX6_when (wsV RX6 64 RX6 yX6_its wsX6_its) := goodIn_app (goodIn_of _ (by decide +kernel)) ggX6_when_X6_its
set_option maxRecDepth 20000 in
theorem ggX6_when_X6_anHour : GoodIn wsX6_when wsX6_anHour := goodIn_r _ [32, 33, 20, 34, 35, 36, 37, 38, 39, 40, 41, 42, 43, 44, 45, 4, 46, 25, 26, 27, 28, 47, 48, 49, 50, 51, 52, 53, 54, 55, 56, 57, 58, 59, 60, 61, 62, 63, 64, 65, 66, 67, 68, 69, 70, 71, 72, 73, 74, 75, 76, 77, 78, 79, 80, 85, 86, 87, 88, 89, 90, 91, 92, 93, 94, 95, 96, 97, 98, 99, 100, 101] (by decide +kernel) (by decide +kernel)
set_option maxRecDepth 20000 in
theorem gX6_when_X6_anHour : GoodIn wsX6_when (wsV RX6 138 RX6 yX6_anHour wsX6_anHour) := goodIn_app (goodIn_of _ (by decide +kernel)) ggX6_when_X6_anHour
set_option maxRecDepth 20000 in
theorem ggX6_when_X6_laysBack : GoodIn wsX6_when wsX6_laysBack := goodIn_r _ [84, 21, 20, 22, 23, 4, 24, 85, 86, 87, 88, 89, 90, 91, 92, 93, 94, 95, 96, 97, 98, 99, 100, 101] (by decide +kernel) (by decide +kernel)
set_option maxRecDepth 20000 in
theorem gX6_when_X6_laysBack : GoodIn wsX6_when (wsV RX6 163 RX6 yX6_laysBack wsX6_laysBack) := goodIn_app (goodIn_of _ (by decide +kernel)) ggX6_when_X6_laysBack
theorem dX6_when_0 : decode cX6_when 0 = .ok (.iload_n 1, 1) := by decide +kernel
theorem dX6_when_1 : decode cX6_when 1 = .ok (.invokestatic 87, 3) := by decide +kernel
theorem dX6_when_4 : decode cX6_when 4 = .ok (.ifCond .eq 15, 3) := by decide +kernel
theorem dX6_when_7 : decode cX6_when 7 = .ok (.iload_n 2, 1) := by decide +kernel
theorem dX6_when_8 : decode cX6_when 8 = .ok (.i2l, 1) := by decide +kernel
theorem dX6_when_9 : decode cX6_when 9 = .ok (.lconst 0, 1) := by decide +kernel
theorem dX6_when_10 : decode cX6_when 10 = .ok (.ldc2_w 81, 3) := by decide +kernel
theorem dX6_when_13 : decode cX6_when 13 = .ok (.invokestatic 54, 3) := by decide +kernel
theorem dX6_when_16 : decode cX6_when 16 = .ok (.ifCond .ne 9, 3) := by decide +kernel
theorem dX6_when_19 : decode cX6_when 19 = .ok (.aload_n 0, 1) := by decide +kernel
theorem dX6_when_20 : decode cX6_when 20 = .ok (.iconst 0, 1) := by decide +kernel
theorem dX6_when_21 : decode cX6_when 21 = .ok (.invokevirtual 96, 3) := by decide +kernel
theorem dX6_when_24 : decode cX6_when 24 = .ok (.ireturn, 1) := by decide +kernel
theorem dX6_when_25 : decode cX6_when 25 = .ok (.aload_n 0, 1) := by decide +kernel
theorem dX6_when_26 : decode cX6_when 26 = .ok (.invokevirtual 160, 3) := by decide +kernel
theorem dX6_when_29 : decode cX6_when 29 = .ok (.iconst 0, 1) := by decide +kernel
theorem dX6_when_30 : decode cX6_when 30 = .ok (.istore_n 3, 1) := by decide +kernel
theorem dX6_when_31 : decode cX6_when 31 = .ok (.iload_n 3, 1) := by decide +kernel
theorem dX6_when_32 : decode cX6_when 32 = .ok (.bipush 100, 2) := by decide +kernel
theorem dX6_when_34 : decode cX6_when 34 = .ok (.if_icmp .gt 23, 3) := by decide +kernel
theorem dX6_when_37 : decode cX6_when 37 = .ok (.aload_n 0, 1) := by decide +kernel
theorem dX6_when_38 : decode cX6_when 38 = .ok (.iload_n 1, 1) := by decide +kernel
theorem dX6_when_39 : decode cX6_when 39 = .ok (.iconst 1, 1) := by decide +kernel
theorem dX6_when_40 : decode cX6_when 40 = .ok (.invokevirtual 64, 3) := by decide +kernel
theorem dX6_when_43 : decode cX6_when 43 = .ok (.iload_n 2, 1) := by decide +kernel
theorem dX6_when_44 : decode cX6_when 44 = .ok (.if_icmp .ge 13, 3) := by decide +kernel
theorem dX6_when_47 : decode cX6_when 47 = .ok (.aload_n 0, 1) := by decide +kernel
theorem dX6_when_48 : decode cX6_when 48 = .ok (.invokevirtual 138, 3) := by decide +kernel
theorem dX6_when_51 : decode cX6_when 51 = .ok (.iinc 3 1, 3) := by decide +kernel
theorem dX6_when_54 : decode cX6_when 54 = .ok (.goto (-23), 3) := by decide +kernel
theorem dX6_when_57 : decode cX6_when 57 = .ok (.aload_n 0, 1) := by decide +kernel
theorem dX6_when_58 : decode cX6_when 58 = .ok (.invokevirtual 163, 3) := by decide +kernel
theorem dX6_when_61 : decode cX6_when 61 = .ok (.iload_n 3, 1) := by decide +kernel
theorem dX6_when_62 : decode cX6_when 62 = .ok (.bipush 100, 2) := by decide +kernel
theorem dX6_when_64 : decode cX6_when 64 = .ok (.if_icmp .gt 7, 3) := by decide +kernel
theorem dX6_when_67 : decode cX6_when 67 = .ok (.iload_n 3, 1) := by decide +kernel
theorem dX6_when_68 : decode cX6_when 68 = .ok (.goto 8, 3) := by decide +kernel
theorem dX6_when_71 : decode cX6_when 71 = .ok (.aload_n 0, 1) := by decide +kernel
theorem dX6_when_72 : decode cX6_when 72 = .ok (.iconst 3, 1) := by decide +kernel
theorem dX6_when_73 : decode cX6_when 73 = .ok (.invokevirtual 96, 3) := by decide +kernel
theorem dX6_when_76 : decode cX6_when 76 = .ok (.ireturn, 1) := by decide +kernel
set_option maxRecDepth 20000 in
theorem ggX6_leavesAll_X6_its : GoodIn wsX6_leavesAll wsX6_its := goodIn_r _ [6, 7, 60, 61, 62, 63, 64, 65, 66, 67, 68, 69, 70, 71, 72, 73, 74, 75, 76] (by decide +kernel) (by decide +kernel)
set_option maxRecDepth 20000 in
theorem gX6_leavesAll_X6_its : GoodIn wsX6_leavesAll (wsV RX6 64 RX6 yX6_its wsX6_its) := goodIn_app (goodIn_of _ (by decide +kernel)) ggX6_leavesAll_X6_its
set_option maxRecDepth 20000 in
theorem ggX6_leavesAll_X6_anHour : GoodIn wsX6_leavesAll wsX6_anHour := goodIn_r _ [11, 12, 7, 13, 14, 15, 16, 17, 18, 19, 20, 21, 22, 23, 24, 5, 25, 2, 3, 4, 6, 26, 27, 28, 29, 30, 31, 32, 33, 34, 35, 36, 37, 38, 39, 40, 41, 42, 43, 44, 45, 46, 47, 48, 49, 50, 51, 52, 53, 54, 55, 56, 57, 58, 59, 60, 61, 62, 63, 64, 65, 66, 67, 68, 69, 70, 71, 72, 73, 74, 75, 76] (by decide +kernel) (by decide +kernel)
set_option maxRecDepth 20000 in
theorem gX6_leavesAll_X6_anHour : GoodIn wsX6_leavesAll (wsV RX6 138 RX6 yX6_anHour wsX6_anHour) := goodIn_app (goodIn_of _ (by decide +kernel)) ggX6_leavesAll_X6_anHour
theorem dX6_leavesAll_0 : decode cX6_leavesAll 0 = .ok (.iconst 0, 1) := by decide +kernel
theorem dX6_leavesAll_1 : decode cX6_leavesAll 1 = .ok (.istore_n 1, 1) := by decide +kernel
theorem dX6_leavesAll_2 : decode cX6_leavesAll 2 = .ok (.iload_n 1, 1) := by decide +kernel
theorem dX6_leavesAll_3 : decode cX6_leavesAll 3 = .ok (.bipush 11, 2) := by decide +kernel
theorem dX6_leavesAll_5 : decode cX6_leavesAll 5 = .ok (.if_icmp .ge 21, 3) := by decide +kernel
theorem dX6_leavesAll_8 : decode cX6_leavesAll 8 = .ok (.aload_n 0, 1) := by decide +kernel
theorem dX6_leavesAll_9 : decode cX6_leavesAll 9 = .ok (.getfield 25, 3) := by decide +kernel
theorem dX6_leavesAll_12 : decode cX6_leavesAll 12 = .ok (.iload_n 1, 1) := by decide +kernel
theorem dX6_leavesAll_13 : decode cX6_leavesAll 13 = .ok (.aload_n 0, 1) := by decide +kernel
theorem dX6_leavesAll_14 : decode cX6_leavesAll 14 = .ok (.iload_n 1, 1) := by decide +kernel
theorem dX6_leavesAll_15 : decode cX6_leavesAll 15 = .ok (.iconst 1, 1) := by decide +kernel
theorem dX6_leavesAll_16 : decode cX6_leavesAll 16 = .ok (.invokevirtual 64, 3) := by decide +kernel
theorem dX6_leavesAll_19 : decode cX6_leavesAll 19 = .ok (.iastore, 1) := by decide +kernel
theorem dX6_leavesAll_20 : decode cX6_leavesAll 20 = .ok (.iinc 1 1, 3) := by decide +kernel
theorem dX6_leavesAll_23 : decode cX6_leavesAll 23 = .ok (.goto (-21), 3) := by decide +kernel
theorem dX6_leavesAll_26 : decode cX6_leavesAll 26 = .ok (.aload_n 0, 1) := by decide +kernel
theorem dX6_leavesAll_27 : decode cX6_leavesAll 27 = .ok (.invokevirtual 138, 3) := by decide +kernel
theorem dX6_leavesAll_30 : decode cX6_leavesAll 30 = .ok (.iconst 1, 1) := by decide +kernel
theorem dX6_leavesAll_31 : decode cX6_leavesAll 31 = .ok (.istore_n 1, 1) := by decide +kernel
theorem dX6_leavesAll_32 : decode cX6_leavesAll 32 = .ok (.iconst 0, 1) := by decide +kernel
theorem dX6_leavesAll_33 : decode cX6_leavesAll 33 = .ok (.istore_n 2, 1) := by decide +kernel
theorem dX6_leavesAll_34 : decode cX6_leavesAll 34 = .ok (.iload_n 2, 1) := by decide +kernel
theorem dX6_leavesAll_35 : decode cX6_leavesAll 35 = .ok (.bipush 11, 2) := by decide +kernel
theorem dX6_leavesAll_37 : decode cX6_leavesAll 37 = .ok (.if_icmp .ge 34, 3) := by decide +kernel
theorem dX6_leavesAll_40 : decode cX6_leavesAll 40 = .ok (.iload_n 1, 1) := by decide +kernel
theorem dX6_leavesAll_41 : decode cX6_leavesAll 41 = .ok (.ifCond .eq 22, 3) := by decide +kernel
theorem dX6_leavesAll_44 : decode cX6_leavesAll 44 = .ok (.aload_n 0, 1) := by decide +kernel
theorem dX6_leavesAll_45 : decode cX6_leavesAll 45 = .ok (.getfield 25, 3) := by decide +kernel
theorem dX6_leavesAll_48 : decode cX6_leavesAll 48 = .ok (.iload_n 2, 1) := by decide +kernel
theorem dX6_leavesAll_49 : decode cX6_leavesAll 49 = .ok (.iaload, 1) := by decide +kernel
theorem dX6_leavesAll_50 : decode cX6_leavesAll 50 = .ok (.aload_n 0, 1) := by decide +kernel
theorem dX6_leavesAll_51 : decode cX6_leavesAll 51 = .ok (.iload_n 2, 1) := by decide +kernel
theorem dX6_leavesAll_52 : decode cX6_leavesAll 52 = .ok (.iconst 1, 1) := by decide +kernel
theorem dX6_leavesAll_53 : decode cX6_leavesAll 53 = .ok (.invokevirtual 64, 3) := by decide +kernel
theorem dX6_leavesAll_56 : decode cX6_leavesAll 56 = .ok (.if_icmp .ne 7, 3) := by decide +kernel
theorem dX6_leavesAll_59 : decode cX6_leavesAll 59 = .ok (.iconst 1, 1) := by decide +kernel
theorem dX6_leavesAll_60 : decode cX6_leavesAll 60 = .ok (.goto 4, 3) := by decide +kernel
theorem dX6_leavesAll_63 : decode cX6_leavesAll 63 = .ok (.iconst 0, 1) := by decide +kernel
theorem dX6_leavesAll_64 : decode cX6_leavesAll 64 = .ok (.istore_n 1, 1) := by decide +kernel
theorem dX6_leavesAll_65 : decode cX6_leavesAll 65 = .ok (.iinc 2 1, 3) := by decide +kernel
theorem dX6_leavesAll_68 : decode cX6_leavesAll 68 = .ok (.goto (-34), 3) := by decide +kernel
theorem dX6_leavesAll_71 : decode cX6_leavesAll 71 = .ok (.iload_n 1, 1) := by decide +kernel
theorem dX6_leavesAll_72 : decode cX6_leavesAll 72 = .ok (.ireturn, 1) := by decide +kernel
set_option maxRecDepth 20000 in
theorem ggX6_settles_X6_lends : GoodIn wsX6_settles wsX6_lends := goodIn_r _ [5, 6, 7, 8, 9, 4, 10, 82, 83, 84, 85, 86, 87, 88, 89, 90, 91, 92, 93, 94, 95, 96, 97, 98] (by decide +kernel) (by decide +kernel)
set_option maxRecDepth 20000 in
theorem gX6_settles_X6_lends : GoodIn wsX6_settles (wsV RX6 160 RX6 yX6_lends wsX6_lends) := goodIn_app (goodIn_of _ (by decide +kernel)) ggX6_settles_X6_lends
set_option maxRecDepth 20000 in
theorem ggX6_settles_X6_leavesAll : GoodIn wsX6_settles wsX6_leavesAll := goodIn_r _ [14, 15, 16, 17, 18, 4, 19, 6, 20, 21, 22, 23, 24, 25, 26, 27, 28, 29, 30, 31, 32, 33, 34, 35, 36, 37, 38, 39, 40, 41, 42, 43, 44, 45, 46, 47, 48, 49, 50, 51, 52, 53, 54, 55, 56, 57, 58, 59, 60, 61, 62, 63, 64, 65, 66, 67, 68, 69, 70, 71, 82, 83, 84, 85, 86, 87, 88, 89, 90, 91, 92, 93, 94, 95, 96, 97, 98] (by decide +kernel) (by decide +kernel)
set_option maxRecDepth 20000 in
theorem gX6_settles_X6_leavesAll : GoodIn wsX6_settles (wsV RX6 172 RX6 yX6_leavesAll wsX6_leavesAll) := goodIn_app (goodIn_of _ (by decide +kernel)) ggX6_settles_X6_leavesAll
set_option maxRecDepth 20000 in
theorem ggX6_settles_X6_laysBack : GoodIn wsX6_settles wsX6_laysBack := goodIn_r _ [75, 7, 6, 8, 9, 4, 10, 82, 83, 84, 85, 86, 87, 88, 89, 90, 91, 92, 93, 94, 95, 96, 97, 98] (by decide +kernel) (by decide +kernel)
set_option maxRecDepth 20000 in
theorem gX6_settles_X6_laysBack : GoodIn wsX6_settles (wsV RX6 163 RX6 yX6_laysBack wsX6_laysBack) := goodIn_app (goodIn_of _ (by decide +kernel)) ggX6_settles_X6_laysBack
set_option maxRecDepth 20000 in
theorem ggX6_settles_X6_finds : GoodIn wsX6_settles wsX6_finds := goodIn_r _ [79, 80, 81, 82, 83, 84, 85, 86, 87, 88, 89, 90, 91, 92, 93, 94, 95, 96, 97, 98] (by decide +kernel) (by decide +kernel)
set_option maxRecDepth 20000 in
theorem gX6_settles_X6_finds : GoodIn wsX6_settles (wsV RX6 96 RX6 yX6_finds wsX6_finds) := goodIn_app (goodIn_of _ (by decide +kernel)) ggX6_settles_X6_finds
theorem dX6_settles_0 : decode cX6_settles 0 = .ok (.aload_n 0, 1) := by decide +kernel
theorem dX6_settles_1 : decode cX6_settles 1 = .ok (.invokevirtual 160, 3) := by decide +kernel
theorem dX6_settles_4 : decode cX6_settles 4 = .ok (.iconst 0, 1) := by decide +kernel
theorem dX6_settles_5 : decode cX6_settles 5 = .ok (.istore_n 1, 1) := by decide +kernel
theorem dX6_settles_6 : decode cX6_settles 6 = .ok (.iload_n 1, 1) := by decide +kernel
theorem dX6_settles_7 : decode cX6_settles 7 = .ok (.bipush 100, 2) := by decide +kernel
theorem dX6_settles_9 : decode cX6_settles 9 = .ok (.if_icmp .gt 16, 3) := by decide +kernel
theorem dX6_settles_12 : decode cX6_settles 12 = .ok (.aload_n 0, 1) := by decide +kernel
theorem dX6_settles_13 : decode cX6_settles 13 = .ok (.invokevirtual 172, 3) := by decide +kernel
theorem dX6_settles_16 : decode cX6_settles 16 = .ok (.ifCond .ne 9, 3) := by decide +kernel
theorem dX6_settles_19 : decode cX6_settles 19 = .ok (.iinc 1 1, 3) := by decide +kernel
theorem dX6_settles_22 : decode cX6_settles 22 = .ok (.goto (-16), 3) := by decide +kernel
theorem dX6_settles_25 : decode cX6_settles 25 = .ok (.aload_n 0, 1) := by decide +kernel
theorem dX6_settles_26 : decode cX6_settles 26 = .ok (.invokevirtual 163, 3) := by decide +kernel
theorem dX6_settles_29 : decode cX6_settles 29 = .ok (.iload_n 1, 1) := by decide +kernel
theorem dX6_settles_30 : decode cX6_settles 30 = .ok (.bipush 100, 2) := by decide +kernel
theorem dX6_settles_32 : decode cX6_settles 32 = .ok (.if_icmp .gt 7, 3) := by decide +kernel
theorem dX6_settles_35 : decode cX6_settles 35 = .ok (.iload_n 1, 1) := by decide +kernel
theorem dX6_settles_36 : decode cX6_settles 36 = .ok (.goto 8, 3) := by decide +kernel
theorem dX6_settles_39 : decode cX6_settles 39 = .ok (.aload_n 0, 1) := by decide +kernel
theorem dX6_settles_40 : decode cX6_settles 40 = .ok (.iconst 3, 1) := by decide +kernel
theorem dX6_settles_41 : decode cX6_settles 41 = .ok (.invokevirtual 96, 3) := by decide +kernel
theorem dX6_settles_44 : decode cX6_settles 44 = .ok (.ireturn, 1) := by decide +kernel
set_option maxRecDepth 20000 in
theorem ggX6_below_X6_isHouse : GoodIn wsX6_below wsX6_isHouse := goodIn_r _ [4, 5, 6, 7, 3, 8] (by decide +kernel) (by decide +kernel)
set_option maxRecDepth 20000 in
theorem gX6_below_X6_isHouse : GoodIn wsX6_below (va_wsS RX6 87 yX6_isHouse wsX6_isHouse) := goodIn_app (goodIn_of _ (by decide +kernel)) ggX6_below_X6_isHouse
set_option maxRecDepth 20000 in
theorem ggX6_below_X6_finds : GoodIn wsX6_below wsX6_finds := goodIn_r _ [12, 13, 14, 24, 25, 26, 27, 28, 29, 30, 31, 32, 33, 34, 35, 36, 37, 38, 39, 40] (by decide +kernel) (by decide +kernel)
set_option maxRecDepth 20000 in
theorem gX6_below_X6_finds : GoodIn wsX6_below (wsV RX6 96 RX6 yX6_finds wsX6_finds) := goodIn_app (goodIn_of _ (by decide +kernel)) ggX6_below_X6_finds
set_option maxRecDepth 20000 in
theorem ggX6_below_X6_leads : GoodIn wsX6_below wsX6_leads := goodIn_r _ [18, 19, 20, 21, 3, 22, 23, 24, 25, 26, 27, 28, 29, 30, 31, 32, 33, 34, 35, 36, 37, 38, 39, 40] (by decide +kernel) (by decide +kernel)
set_option maxRecDepth 20000 in
theorem gX6_below_X6_leads : GoodIn wsX6_below (wsV RX6 110 RX6 yX6_leads wsX6_leads) := goodIn_app (goodIn_of _ (by decide +kernel)) ggX6_below_X6_leads
theorem dX6_below_0 : decode cX6_below 0 = .ok (.iload_n 1, 1) := by decide +kernel
theorem dX6_below_1 : decode cX6_below 1 = .ok (.invokestatic 87, 3) := by decide +kernel
theorem dX6_below_4 : decode cX6_below 4 = .ok (.ifCond .ne 9, 3) := by decide +kernel
theorem dX6_below_7 : decode cX6_below 7 = .ok (.aload_n 0, 1) := by decide +kernel
theorem dX6_below_8 : decode cX6_below 8 = .ok (.iconst 0, 1) := by decide +kernel
theorem dX6_below_9 : decode cX6_below 9 = .ok (.invokevirtual 96, 3) := by decide +kernel
theorem dX6_below_12 : decode cX6_below 12 = .ok (.ireturn, 1) := by decide +kernel
theorem dX6_below_13 : decode cX6_below 13 = .ok (.iconst 0, 1) := by decide +kernel
theorem dX6_below_14 : decode cX6_below 14 = .ok (.istore_n 2, 1) := by decide +kernel
theorem dX6_below_15 : decode cX6_below 15 = .ok (.iload_n 1, 1) := by decide +kernel
theorem dX6_below_16 : decode cX6_below 16 = .ok (.istore_n 3, 1) := by decide +kernel
theorem dX6_below_17 : decode cX6_below 17 = .ok (.iload_n 3, 1) := by decide +kernel
theorem dX6_below_18 : decode cX6_below 18 = .ok (.ifCond .lt 18, 3) := by decide +kernel
theorem dX6_below_21 : decode cX6_below 21 = .ok (.iload_n 2, 1) := by decide +kernel
theorem dX6_below_22 : decode cX6_below 22 = .ok (.iconst 1, 1) := by decide +kernel
theorem dX6_below_23 : decode cX6_below 23 = .ok (.iload_n 3, 1) := by decide +kernel
theorem dX6_below_24 : decode cX6_below 24 = .ok (.ishl, 1) := by decide +kernel
theorem dX6_below_25 : decode cX6_below 25 = .ok (.ior, 1) := by decide +kernel
theorem dX6_below_26 : decode cX6_below 26 = .ok (.istore_n 2, 1) := by decide +kernel
theorem dX6_below_27 : decode cX6_below 27 = .ok (.aload_n 0, 1) := by decide +kernel
theorem dX6_below_28 : decode cX6_below 28 = .ok (.iload_n 3, 1) := by decide +kernel
theorem dX6_below_29 : decode cX6_below 29 = .ok (.invokevirtual 110, 3) := by decide +kernel
theorem dX6_below_32 : decode cX6_below 32 = .ok (.istore_n 3, 1) := by decide +kernel
theorem dX6_below_33 : decode cX6_below 33 = .ok (.goto (-16), 3) := by decide +kernel
theorem dX6_below_36 : decode cX6_below 36 = .ok (.iload_n 2, 1) := by decide +kernel
theorem dX6_below_37 : decode cX6_below 37 = .ok (.ireturn, 1) := by decide +kernel
set_option maxRecDepth 20000 in
theorem ggX6_isWet_X6_dryIn : GoodIn wsX6_isWet wsX6_dryIn := goodIn_r _ [5, 6, 7, 8, 9, 4, 10, 11, 12, 13, 14, 15, 16, 17, 18, 19, 20, 21, 22, 23, 24, 25, 26, 27, 28, 29, 30, 31, 32, 33, 34, 35, 36, 37, 38, 39, 40, 41, 42, 43, 44, 45, 46, 47, 48, 49, 50, 51, 52, 53, 54, 55, 56, 57, 58, 59, 60, 61, 62, 71, 72, 73, 74, 75, 76, 77, 78, 79, 80, 81, 82, 83, 84, 85, 86, 87] (by decide +kernel) (by decide +kernel)
set_option maxRecDepth 20000 in
theorem gX6_isWet_X6_dryIn : GoodIn wsX6_isWet (wsV RX6 169 RX6 yX6_dryIn wsX6_dryIn) := goodIn_app (goodIn_of _ (by decide +kernel)) ggX6_isWet_X6_dryIn
set_option maxRecDepth 20000 in
theorem ggX6_isWet_X6_laysBack : GoodIn wsX6_isWet wsX6_laysBack := goodIn_r _ [66, 67, 11, 68, 69, 4, 70, 71, 72, 73, 74, 75, 76, 77, 78, 79, 80, 81, 82, 83, 84, 85, 86, 87] (by decide +kernel) (by decide +kernel)
set_option maxRecDepth 20000 in
theorem gX6_isWet_X6_laysBack : GoodIn wsX6_isWet (wsV RX6 163 RX6 yX6_laysBack wsX6_laysBack) := goodIn_app (goodIn_of _ (by decide +kernel)) ggX6_isWet_X6_laysBack
theorem dX6_isWet_0 : decode cX6_isWet 0 = .ok (.aload_n 0, 1) := by decide +kernel
theorem dX6_isWet_1 : decode cX6_isWet 1 = .ok (.iload_n 2, 1) := by decide +kernel
theorem dX6_isWet_2 : decode cX6_isWet 2 = .ok (.invokevirtual 169, 3) := by decide +kernel
theorem dX6_isWet_5 : decode cX6_isWet 5 = .ok (.iload_n 1, 1) := by decide +kernel
theorem dX6_isWet_6 : decode cX6_isWet 6 = .ok (.ishr, 1) := by decide +kernel
theorem dX6_isWet_7 : decode cX6_isWet 7 = .ok (.iconst 1, 1) := by decide +kernel
theorem dX6_isWet_8 : decode cX6_isWet 8 = .ok (.iand, 1) := by decide +kernel
theorem dX6_isWet_9 : decode cX6_isWet 9 = .ok (.ifCond .ne 7, 3) := by decide +kernel
theorem dX6_isWet_12 : decode cX6_isWet 12 = .ok (.iconst 1, 1) := by decide +kernel
theorem dX6_isWet_13 : decode cX6_isWet 13 = .ok (.goto 4, 3) := by decide +kernel
theorem dX6_isWet_16 : decode cX6_isWet 16 = .ok (.iconst 0, 1) := by decide +kernel
theorem dX6_isWet_17 : decode cX6_isWet 17 = .ok (.istore_n 3, 1) := by decide +kernel
theorem dX6_isWet_18 : decode cX6_isWet 18 = .ok (.aload_n 0, 1) := by decide +kernel
theorem dX6_isWet_19 : decode cX6_isWet 19 = .ok (.invokevirtual 163, 3) := by decide +kernel
theorem dX6_isWet_22 : decode cX6_isWet 22 = .ok (.iload_n 3, 1) := by decide +kernel
theorem dX6_isWet_23 : decode cX6_isWet 23 = .ok (.ireturn, 1) := by decide +kernel
set_option maxRecDepth 20000 in
theorem ggX6_rainFor_X6_isHouse : GoodIn wsX6_rainFor wsX6_isHouse := goodIn_r _ [5, 6, 7, 8, 4, 9] (by decide +kernel) (by decide +kernel)
set_option maxRecDepth 20000 in
theorem gX6_rainFor_X6_isHouse : GoodIn wsX6_rainFor (va_wsS RX6 87 yX6_isHouse wsX6_isHouse) := goodIn_app (goodIn_of _ (by decide +kernel)) ggX6_rainFor_X6_isHouse
set_option maxRecDepth 20000 in
theorem ggX6_rainFor_X6_isSoon : GoodIn wsX6_rainFor wsX6_isSoon := goodIn_r _ [12, 13, 7, 8, 4, 9] (by decide +kernel) (by decide +kernel)
set_option maxRecDepth 20000 in
theorem gX6_rainFor_X6_isSoon : GoodIn wsX6_rainFor (va_wsS RX6 176 yX6_isSoon wsX6_isSoon) := goodIn_app (goodIn_of _ (by decide +kernel)) ggX6_rainFor_X6_isSoon
set_option maxRecDepth 20000 in
theorem ggX6_rainFor_X6_finds : GoodIn wsX6_rainFor wsX6_finds := goodIn_r _ [17, 18, 19, 96, 97, 98, 99, 100, 101, 102, 103, 104, 105, 106, 107, 108, 109, 110, 111, 112] (by decide +kernel) (by decide +kernel)
set_option maxRecDepth 20000 in
theorem gX6_rainFor_X6_finds : GoodIn wsX6_rainFor (wsV RX6 96 RX6 yX6_finds wsX6_finds) := goodIn_app (goodIn_of _ (by decide +kernel)) ggX6_rainFor_X6_finds
set_option maxRecDepth 20000 in
theorem ggX6_rainFor_X6_lends : GoodIn wsX6_rainFor wsX6_lends := goodIn_r _ [23, 1, 24, 25, 26, 4, 27, 96, 97, 98, 99, 100, 101, 102, 103, 104, 105, 106, 107, 108, 109, 110, 111, 112] (by decide +kernel) (by decide +kernel)
set_option maxRecDepth 20000 in
theorem gX6_rainFor_X6_lends : GoodIn wsX6_rainFor (wsV RX6 160 RX6 yX6_lends wsX6_lends) := goodIn_app (goodIn_of _ (by decide +kernel)) ggX6_rainFor_X6_lends
set_option maxRecDepth 20000 in
theorem ggX6_rainFor_X6_isWet : GoodIn wsX6_rainFor wsX6_isWet := goodIn_r _ [31, 32, 33, 34, 4, 35, 36, 37, 38, 39, 40, 1, 41, 42, 43, 44, 45, 46, 47, 48, 49, 50, 51, 52, 53, 54, 55, 56, 57, 58, 59, 60, 61, 62, 63, 64, 65, 66, 67, 68, 69, 70, 71, 72, 73, 74, 75, 76, 77, 78, 79, 80, 81, 82, 83, 84, 85, 86, 87, 88, 89, 90, 91, 92, 93, 94, 95, 24, 25, 26, 27, 96, 97, 98, 99, 100, 101, 102, 103, 104, 105, 106, 107, 108, 109, 110, 111, 112] (by decide +kernel) (by decide +kernel)
set_option maxRecDepth 20000 in
theorem gX6_rainFor_X6_isWet : GoodIn wsX6_rainFor (wsV RX6 179 RX6 yX6_isWet wsX6_isWet) := goodIn_app (goodIn_of _ (by decide +kernel)) ggX6_rainFor_X6_isWet
theorem dX6_rainFor_0 : decode cX6_rainFor 0 = .ok (.iload_n 1, 1) := by decide +kernel
theorem dX6_rainFor_1 : decode cX6_rainFor 1 = .ok (.invokestatic 87, 3) := by decide +kernel
theorem dX6_rainFor_4 : decode cX6_rainFor 4 = .ok (.ifCond .eq 10, 3) := by decide +kernel
theorem dX6_rainFor_7 : decode cX6_rainFor 7 = .ok (.iload_n 2, 1) := by decide +kernel
theorem dX6_rainFor_8 : decode cX6_rainFor 8 = .ok (.invokestatic 176, 3) := by decide +kernel
theorem dX6_rainFor_11 : decode cX6_rainFor 11 = .ok (.ifCond .ne 9, 3) := by decide +kernel
theorem dX6_rainFor_14 : decode cX6_rainFor 14 = .ok (.aload_n 0, 1) := by decide +kernel
theorem dX6_rainFor_15 : decode cX6_rainFor 15 = .ok (.iconst 0, 1) := by decide +kernel
theorem dX6_rainFor_16 : decode cX6_rainFor 16 = .ok (.invokevirtual 96, 3) := by decide +kernel
theorem dX6_rainFor_19 : decode cX6_rainFor 19 = .ok (.ireturn, 1) := by decide +kernel
theorem dX6_rainFor_20 : decode cX6_rainFor 20 = .ok (.iconst 0, 1) := by decide +kernel
theorem dX6_rainFor_21 : decode cX6_rainFor 21 = .ok (.istore_n 3, 1) := by decide +kernel
theorem dX6_rainFor_22 : decode cX6_rainFor 22 = .ok (.iload_n 3, 1) := by decide +kernel
theorem dX6_rainFor_23 : decode cX6_rainFor 23 = .ok (.sipush 999, 3) := by decide +kernel
theorem dX6_rainFor_26 : decode cX6_rainFor 26 = .ok (.if_icmp .gt 31, 3) := by decide +kernel
theorem dX6_rainFor_29 : decode cX6_rainFor 29 = .ok (.aload_n 0, 1) := by decide +kernel
theorem dX6_rainFor_30 : decode cX6_rainFor 30 = .ok (.invokevirtual 160, 3) := by decide +kernel
theorem dX6_rainFor_33 : decode cX6_rainFor 33 = .ok (.aload_n 0, 1) := by decide +kernel
theorem dX6_rainFor_34 : decode cX6_rainFor 34 = .ok (.getfield 9, 3) := by decide +kernel
theorem dX6_rainFor_37 : decode cX6_rainFor 37 = .ok (.iconst 2, 1) := by decide +kernel
theorem dX6_rainFor_38 : decode cX6_rainFor 38 = .ok (.iload_n 3, 1) := by decide +kernel
theorem dX6_rainFor_39 : decode cX6_rainFor 39 = .ok (.iastore, 1) := by decide +kernel
theorem dX6_rainFor_40 : decode cX6_rainFor 40 = .ok (.aload_n 0, 1) := by decide +kernel
theorem dX6_rainFor_41 : decode cX6_rainFor 41 = .ok (.iload_n 1, 1) := by decide +kernel
theorem dX6_rainFor_42 : decode cX6_rainFor 42 = .ok (.iload_n 2, 1) := by decide +kernel
theorem dX6_rainFor_43 : decode cX6_rainFor 43 = .ok (.invokevirtual 179, 3) := by decide +kernel
theorem dX6_rainFor_46 : decode cX6_rainFor 46 = .ok (.ifCond .eq 5, 3) := by decide +kernel
theorem dX6_rainFor_49 : decode cX6_rainFor 49 = .ok (.iload_n 3, 1) := by decide +kernel
theorem dX6_rainFor_50 : decode cX6_rainFor 50 = .ok (.ireturn, 1) := by decide +kernel
theorem dX6_rainFor_51 : decode cX6_rainFor 51 = .ok (.iinc 3 1, 3) := by decide +kernel
theorem dX6_rainFor_54 : decode cX6_rainFor 54 = .ok (.goto (-32), 3) := by decide +kernel
theorem dX6_rainFor_57 : decode cX6_rainFor 57 = .ok (.aload_n 0, 1) := by decide +kernel
theorem dX6_rainFor_58 : decode cX6_rainFor 58 = .ok (.iconst 3, 1) := by decide +kernel
theorem dX6_rainFor_59 : decode cX6_rainFor 59 = .ok (.invokevirtual 96, 3) := by decide +kernel
theorem dX6_rainFor_62 : decode cX6_rainFor 62 = .ok (.ireturn, 1) := by decide +kernel
set_option maxRecDepth 20000 in
theorem ggX6_isWetBy_X6_lends : GoodIn wsX6_isWetBy wsX6_lends := goodIn_r _ [5, 6, 7, 8, 9, 4, 10, 79, 80, 81, 82, 83, 84, 85, 86, 87, 88, 89, 90, 91, 92, 93, 94, 95] (by decide +kernel) (by decide +kernel)
set_option maxRecDepth 20000 in
theorem gX6_isWetBy_X6_lends : GoodIn wsX6_isWetBy (wsV RX6 160 RX6 yX6_lends wsX6_lends) := goodIn_app (goodIn_of _ (by decide +kernel)) ggX6_isWetBy_X6_lends
set_option maxRecDepth 20000 in
theorem ggX6_isWetBy_X6_sets : GoodIn wsX6_isWetBy wsX6_sets := goodIn_r _ [14, 6, 79, 80, 81, 82, 83, 84, 85, 86, 87, 88, 89, 90, 91, 92, 93, 94, 95] (by decide +kernel) (by decide +kernel)
set_option maxRecDepth 20000 in
theorem gX6_isWetBy_X6_sets : GoodIn wsX6_isWetBy (wsV RX6 43 RX6 yX6_sets wsX6_sets) := goodIn_app (goodIn_of _ (by decide +kernel)) ggX6_isWetBy_X6_sets
set_option maxRecDepth 20000 in
theorem ggX6_isWetBy_X6_isWet : GoodIn wsX6_isWetBy wsX6_isWet := goodIn_r _ [18, 19, 20, 21, 4, 22, 23, 24, 25, 26, 27, 6, 28, 29, 30, 31, 32, 33, 34, 35, 36, 37, 38, 39, 40, 41, 42, 43, 44, 45, 46, 47, 48, 11, 12, 13, 14, 49, 50, 51, 52, 53, 54, 55, 56, 57, 58, 59, 60, 61, 62, 63, 64, 65, 66, 67, 68, 69, 70, 71, 72, 73, 74, 75, 76, 77, 78, 7, 8, 9, 10, 79, 80, 81, 82, 83, 84, 85, 86, 87, 88, 89, 90, 91, 92, 93, 94, 95] (by decide +kernel) (by decide +kernel)
set_option maxRecDepth 20000 in
theorem gX6_isWetBy_X6_isWet : GoodIn wsX6_isWetBy (wsV RX6 179 RX6 yX6_isWet wsX6_isWet) := goodIn_app (goodIn_of _ (by decide +kernel)) ggX6_isWetBy_X6_isWet
theorem dX6_isWetBy_0 : decode cX6_isWetBy 0 = .ok (.aload_n 0, 1) := by decide +kernel
theorem dX6_isWetBy_1 : decode cX6_isWetBy 1 = .ok (.invokevirtual 160, 3) := by decide +kernel
theorem dX6_isWetBy_4 : decode cX6_isWetBy 4 = .ok (.aload_n 0, 1) := by decide +kernel
theorem dX6_isWetBy_5 : decode cX6_isWetBy 5 = .ok (.iload_n 1, 1) := by decide +kernel
theorem dX6_isWetBy_6 : decode cX6_isWetBy 6 = .ok (.iload_n 3, 1) := by decide +kernel
theorem dX6_isWetBy_7 : decode cX6_isWetBy 7 = .ok (.iload 4, 2) := by decide +kernel
theorem dX6_isWetBy_9 : decode cX6_isWetBy 9 = .ok (.invokevirtual 43, 3) := by decide +kernel
theorem dX6_isWetBy_12 : decode cX6_isWetBy 12 = .ok (.aload_n 0, 1) := by decide +kernel
theorem dX6_isWetBy_13 : decode cX6_isWetBy 13 = .ok (.iload_n 1, 1) := by decide +kernel
theorem dX6_isWetBy_14 : decode cX6_isWetBy 14 = .ok (.iload_n 2, 1) := by decide +kernel
theorem dX6_isWetBy_15 : decode cX6_isWetBy 15 = .ok (.invokevirtual 179, 3) := by decide +kernel
theorem dX6_isWetBy_18 : decode cX6_isWetBy 18 = .ok (.ireturn, 1) := by decide +kernel
set_option maxRecDepth 20000 in
theorem ggX6_holdsFor_X6_isHouse : GoodIn wsX6_holdsFor wsX6_isHouse := goodIn_r _ [4, 5, 6, 7, 3, 8] (by decide +kernel) (by decide +kernel)
set_option maxRecDepth 20000 in
theorem gX6_holdsFor_X6_isHouse : GoodIn wsX6_holdsFor (va_wsS RX6 87 yX6_isHouse wsX6_isHouse) := goodIn_app (goodIn_of _ (by decide +kernel)) ggX6_holdsFor_X6_isHouse
set_option maxRecDepth 20000 in
theorem ggX6_holdsFor_X6_isSoon : GoodIn wsX6_holdsFor wsX6_isSoon := goodIn_r _ [11, 12, 6, 7, 3, 8] (by decide +kernel) (by decide +kernel)
set_option maxRecDepth 20000 in
theorem gX6_holdsFor_X6_isSoon : GoodIn wsX6_holdsFor (va_wsS RX6 176 yX6_isSoon wsX6_isSoon) := goodIn_app (goodIn_of _ (by decide +kernel)) ggX6_holdsFor_X6_isSoon
set_option maxRecDepth 20000 in
theorem ggX6_holdsFor_X6_finds : GoodIn wsX6_holdsFor wsX6_finds := goodIn_r _ [16, 17, 18, 100, 101, 102, 103, 104, 105, 106, 107, 108, 109, 110, 111, 112, 113, 114, 115, 116] (by decide +kernel) (by decide +kernel)
set_option maxRecDepth 20000 in
theorem gX6_holdsFor_X6_finds : GoodIn wsX6_holdsFor (wsV RX6 96 RX6 yX6_finds wsX6_finds) := goodIn_app (goodIn_of _ (by decide +kernel)) ggX6_holdsFor_X6_finds
set_option maxRecDepth 20000 in
theorem ggX6_holdsFor_X6_isWetBy : GoodIn wsX6_holdsFor wsX6_isWetBy := goodIn_r _ [22, 23, 24, 25, 3, 26, 27, 28, 29, 30, 31, 32, 33, 34, 35, 36, 37, 38, 39, 40, 41, 42, 43, 44, 45, 46, 47, 48, 49, 50, 51, 52, 53, 54, 55, 56, 57, 58, 59, 60, 61, 62, 63, 64, 65, 66, 67, 68, 69, 70, 71, 72, 73, 74, 75, 76, 77, 78, 79, 80, 81, 82, 83, 84, 85, 86, 87, 88, 89, 90, 91, 92, 93, 94, 95, 96, 97, 98, 99, 100, 101, 102, 103, 104, 105, 106, 107, 108, 109, 110, 111, 112, 113, 114, 115, 116] (by decide +kernel) (by decide +kernel)
set_option maxRecDepth 20000 in
theorem gX6_holdsFor_X6_isWetBy : GoodIn wsX6_holdsFor (wsV RX6 182 RX6 yX6_isWetBy wsX6_isWetBy) := goodIn_app (goodIn_of _ (by decide +kernel)) ggX6_holdsFor_X6_isWetBy
theorem dX6_holdsFor_0 : decode cX6_holdsFor 0 = .ok (.iload_n 1, 1) := by decide +kernel
theorem dX6_holdsFor_1 : decode cX6_holdsFor 1 = .ok (.invokestatic 87, 3) := by decide +kernel
theorem dX6_holdsFor_4 : decode cX6_holdsFor 4 = .ok (.ifCond .eq 10, 3) := by decide +kernel
theorem dX6_holdsFor_7 : decode cX6_holdsFor 7 = .ok (.iload_n 2, 1) := by decide +kernel
theorem dX6_holdsFor_8 : decode cX6_holdsFor 8 = .ok (.invokestatic 176, 3) := by decide +kernel
theorem dX6_holdsFor_11 : decode cX6_holdsFor 11 = .ok (.ifCond .ne 9, 3) := by decide +kernel
theorem dX6_holdsFor_14 : decode cX6_holdsFor 14 = .ok (.aload_n 0, 1) := by decide +kernel
theorem dX6_holdsFor_15 : decode cX6_holdsFor 15 = .ok (.iconst 0, 1) := by decide +kernel
theorem dX6_holdsFor_16 : decode cX6_holdsFor 16 = .ok (.invokevirtual 96, 3) := by decide +kernel
theorem dX6_holdsFor_19 : decode cX6_holdsFor 19 = .ok (.ireturn, 1) := by decide +kernel
theorem dX6_holdsFor_20 : decode cX6_holdsFor 20 = .ok (.iconst 0, 1) := by decide +kernel
theorem dX6_holdsFor_21 : decode cX6_holdsFor 21 = .ok (.istore_n 3, 1) := by decide +kernel
theorem dX6_holdsFor_22 : decode cX6_holdsFor 22 = .ok (.iload_n 3, 1) := by decide +kernel
theorem dX6_holdsFor_23 : decode cX6_holdsFor 23 = .ok (.sipush 200, 3) := by decide +kernel
theorem dX6_holdsFor_26 : decode cX6_holdsFor 26 = .ok (.if_icmp .gt 20, 3) := by decide +kernel
theorem dX6_holdsFor_29 : decode cX6_holdsFor 29 = .ok (.aload_n 0, 1) := by decide +kernel
theorem dX6_holdsFor_30 : decode cX6_holdsFor 30 = .ok (.iload_n 1, 1) := by decide +kernel
theorem dX6_holdsFor_31 : decode cX6_holdsFor 31 = .ok (.iload_n 2, 1) := by decide +kernel
theorem dX6_holdsFor_32 : decode cX6_holdsFor 32 = .ok (.iconst 3, 1) := by decide +kernel
theorem dX6_holdsFor_33 : decode cX6_holdsFor 33 = .ok (.iload_n 3, 1) := by decide +kernel
theorem dX6_holdsFor_34 : decode cX6_holdsFor 34 = .ok (.invokevirtual 182, 3) := by decide +kernel
theorem dX6_holdsFor_37 : decode cX6_holdsFor 37 = .ok (.ifCond .ne 9, 3) := by decide +kernel
theorem dX6_holdsFor_40 : decode cX6_holdsFor 40 = .ok (.iinc 3 1, 3) := by decide +kernel
theorem dX6_holdsFor_43 : decode cX6_holdsFor 43 = .ok (.goto (-21), 3) := by decide +kernel
theorem dX6_holdsFor_46 : decode cX6_holdsFor 46 = .ok (.iload_n 3, 1) := by decide +kernel
theorem dX6_holdsFor_47 : decode cX6_holdsFor 47 = .ok (.sipush 200, 3) := by decide +kernel
theorem dX6_holdsFor_50 : decode cX6_holdsFor 50 = .ok (.if_icmp .gt 7, 3) := by decide +kernel
theorem dX6_holdsFor_53 : decode cX6_holdsFor 53 = .ok (.iload_n 3, 1) := by decide +kernel
theorem dX6_holdsFor_54 : decode cX6_holdsFor 54 = .ok (.goto 8, 3) := by decide +kernel
theorem dX6_holdsFor_57 : decode cX6_holdsFor 57 = .ok (.aload_n 0, 1) := by decide +kernel
theorem dX6_holdsFor_58 : decode cX6_holdsFor 58 = .ok (.iconst 3, 1) := by decide +kernel
theorem dX6_holdsFor_59 : decode cX6_holdsFor 59 = .ok (.invokevirtual 96, 3) := by decide +kernel
theorem dX6_holdsFor_62 : decode cX6_holdsFor 62 = .ok (.ireturn, 1) := by decide +kernel
set_option maxRecDepth 20000 in
theorem ggX6_needFor_X6_isHouse : GoodIn wsX6_needFor wsX6_isHouse := goodIn_r _ [4, 5, 6, 7, 3, 8] (by decide +kernel) (by decide +kernel)
set_option maxRecDepth 20000 in
theorem gX6_needFor_X6_isHouse : GoodIn wsX6_needFor (va_wsS RX6 87 yX6_isHouse wsX6_isHouse) := goodIn_app (goodIn_of _ (by decide +kernel)) ggX6_needFor_X6_isHouse
set_option maxRecDepth 20000 in
theorem ggX6_needFor_X6_isSoon : GoodIn wsX6_needFor wsX6_isSoon := goodIn_r _ [11, 12, 6, 7, 3, 8] (by decide +kernel) (by decide +kernel)
set_option maxRecDepth 20000 in
theorem gX6_needFor_X6_isSoon : GoodIn wsX6_needFor (va_wsS RX6 176 yX6_isSoon wsX6_isSoon) := goodIn_app (goodIn_of _ (by decide +kernel)) ggX6_needFor_X6_isSoon
set_option maxRecDepth 20000 in
theorem ggX6_needFor_X6_finds : GoodIn wsX6_needFor wsX6_finds := goodIn_r _ [16, 17, 18, 100, 101, 102, 103, 104, 105, 106, 107, 108, 109, 110, 111, 112, 113, 114, 115, 116] (by decide +kernel) (by decide +kernel)
set_option maxRecDepth 20000 in
theorem gX6_needFor_X6_finds : GoodIn wsX6_needFor (wsV RX6 96 RX6 yX6_finds wsX6_finds) := goodIn_app (goodIn_of _ (by decide +kernel)) ggX6_needFor_X6_finds
set_option maxRecDepth 20000 in
theorem ggX6_needFor_X6_isWetBy : GoodIn wsX6_needFor wsX6_isWetBy := goodIn_r _ [22, 23, 24, 25, 3, 26, 27, 28, 29, 30, 31, 32, 33, 34, 35, 36, 37, 38, 39, 40, 41, 42, 43, 44, 45, 46, 47, 48, 49, 50, 51, 52, 53, 54, 55, 56, 57, 58, 59, 60, 61, 62, 63, 64, 65, 66, 67, 68, 69, 70, 71, 72, 73, 74, 75, 76, 77, 78, 79, 80, 81, 82, 83, 84, 85, 86, 87, 88, 89, 90, 91, 92, 93, 94, 95, 96, 97, 98, 99, 100, 101, 102, 103, 104, 105, 106, 107, 108, 109, 110, 111, 112, 113, 114, 115, 116] (by decide +kernel) (by decide +kernel)
set_option maxRecDepth 20000 in
theorem gX6_needFor_X6_isWetBy : GoodIn wsX6_needFor (wsV RX6 182 RX6 yX6_isWetBy wsX6_isWetBy) := goodIn_app (goodIn_of _ (by decide +kernel)) ggX6_needFor_X6_isWetBy
theorem dX6_needFor_0 : decode cX6_needFor 0 = .ok (.iload_n 1, 1) := by decide +kernel
theorem dX6_needFor_1 : decode cX6_needFor 1 = .ok (.invokestatic 87, 3) := by decide +kernel
theorem dX6_needFor_4 : decode cX6_needFor 4 = .ok (.ifCond .eq 10, 3) := by decide +kernel
theorem dX6_needFor_7 : decode cX6_needFor 7 = .ok (.iload_n 2, 1) := by decide +kernel
theorem dX6_needFor_8 : decode cX6_needFor 8 = .ok (.invokestatic 176, 3) := by decide +kernel
theorem dX6_needFor_11 : decode cX6_needFor 11 = .ok (.ifCond .ne 9, 3) := by decide +kernel
theorem dX6_needFor_14 : decode cX6_needFor 14 = .ok (.aload_n 0, 1) := by decide +kernel
theorem dX6_needFor_15 : decode cX6_needFor 15 = .ok (.iconst 0, 1) := by decide +kernel
theorem dX6_needFor_16 : decode cX6_needFor 16 = .ok (.invokevirtual 96, 3) := by decide +kernel
theorem dX6_needFor_19 : decode cX6_needFor 19 = .ok (.ireturn, 1) := by decide +kernel
theorem dX6_needFor_20 : decode cX6_needFor 20 = .ok (.bipush 99, 2) := by decide +kernel
theorem dX6_needFor_22 : decode cX6_needFor 22 = .ok (.istore_n 3, 1) := by decide +kernel
theorem dX6_needFor_23 : decode cX6_needFor 23 = .ok (.iload_n 3, 1) := by decide +kernel
theorem dX6_needFor_24 : decode cX6_needFor 24 = .ok (.ifCond .lt 20, 3) := by decide +kernel
theorem dX6_needFor_27 : decode cX6_needFor 27 = .ok (.aload_n 0, 1) := by decide +kernel
theorem dX6_needFor_28 : decode cX6_needFor 28 = .ok (.iload_n 1, 1) := by decide +kernel
theorem dX6_needFor_29 : decode cX6_needFor 29 = .ok (.iload_n 2, 1) := by decide +kernel
theorem dX6_needFor_30 : decode cX6_needFor 30 = .ok (.iconst 2, 1) := by decide +kernel
theorem dX6_needFor_31 : decode cX6_needFor 31 = .ok (.iload_n 3, 1) := by decide +kernel
theorem dX6_needFor_32 : decode cX6_needFor 32 = .ok (.invokevirtual 182, 3) := by decide +kernel
theorem dX6_needFor_35 : decode cX6_needFor 35 = .ok (.ifCond .ne 9, 3) := by decide +kernel
theorem dX6_needFor_38 : decode cX6_needFor 38 = .ok (.iinc 3 (-1), 3) := by decide +kernel
theorem dX6_needFor_41 : decode cX6_needFor 41 = .ok (.goto (-18), 3) := by decide +kernel
theorem dX6_needFor_44 : decode cX6_needFor 44 = .ok (.iload_n 3, 1) := by decide +kernel
theorem dX6_needFor_45 : decode cX6_needFor 45 = .ok (.ifCond .lt 7, 3) := by decide +kernel
theorem dX6_needFor_48 : decode cX6_needFor 48 = .ok (.iload_n 3, 1) := by decide +kernel
theorem dX6_needFor_49 : decode cX6_needFor 49 = .ok (.goto 8, 3) := by decide +kernel
theorem dX6_needFor_52 : decode cX6_needFor 52 = .ok (.aload_n 0, 1) := by decide +kernel
theorem dX6_needFor_53 : decode cX6_needFor 53 = .ok (.iconst 3, 1) := by decide +kernel
theorem dX6_needFor_54 : decode cX6_needFor 54 = .ok (.invokevirtual 96, 3) := by decide +kernel
theorem dX6_needFor_57 : decode cX6_needFor 57 = .ok (.ireturn, 1) := by decide +kernel
set_option maxRecDepth 20000 in
theorem ggX6_kindsFor_X6_isHouse : GoodIn wsX6_kindsFor wsX6_isHouse := goodIn_r _ [4, 5, 6, 7, 3, 8] (by decide +kernel) (by decide +kernel)
set_option maxRecDepth 20000 in
theorem gX6_kindsFor_X6_isHouse : GoodIn wsX6_kindsFor (va_wsS RX6 87 yX6_isHouse wsX6_isHouse) := goodIn_app (goodIn_of _ (by decide +kernel)) ggX6_kindsFor_X6_isHouse
set_option maxRecDepth 20000 in
theorem ggX6_kindsFor_X6_isSoon : GoodIn wsX6_kindsFor wsX6_isSoon := goodIn_r _ [11, 12, 6, 7, 3, 8] (by decide +kernel) (by decide +kernel)
set_option maxRecDepth 20000 in
theorem gX6_kindsFor_X6_isSoon : GoodIn wsX6_kindsFor (va_wsS RX6 176 yX6_isSoon wsX6_isSoon) := goodIn_app (goodIn_of _ (by decide +kernel)) ggX6_kindsFor_X6_isSoon
set_option maxRecDepth 20000 in
theorem ggX6_kindsFor_X6_finds : GoodIn wsX6_kindsFor wsX6_finds := goodIn_r _ [16, 17, 18, 100, 101, 102, 103, 104, 105, 106, 107, 108, 109, 110, 111, 112, 113, 114, 115, 116] (by decide +kernel) (by decide +kernel)
set_option maxRecDepth 20000 in
theorem gX6_kindsFor_X6_finds : GoodIn wsX6_kindsFor (wsV RX6 96 RX6 yX6_finds wsX6_finds) := goodIn_app (goodIn_of _ (by decide +kernel)) ggX6_kindsFor_X6_finds
set_option maxRecDepth 20000 in
theorem ggX6_kindsFor_X6_isWetBy : GoodIn wsX6_kindsFor wsX6_isWetBy := goodIn_r _ [22, 23, 24, 25, 3, 26, 27, 28, 29, 30, 31, 32, 33, 34, 35, 36, 37, 38, 39, 40, 41, 42, 43, 44, 45, 46, 47, 48, 49, 50, 51, 52, 53, 54, 55, 56, 57, 58, 59, 60, 61, 62, 63, 64, 65, 66, 67, 68, 69, 70, 71, 72, 73, 74, 75, 76, 77, 78, 79, 80, 81, 82, 83, 84, 85, 86, 87, 88, 89, 90, 91, 92, 93, 94, 95, 96, 97, 98, 99, 100, 101, 102, 103, 104, 105, 106, 107, 108, 109, 110, 111, 112, 113, 114, 115, 116] (by decide +kernel) (by decide +kernel)
set_option maxRecDepth 20000 in
theorem gX6_kindsFor_X6_isWetBy : GoodIn wsX6_kindsFor (wsV RX6 182 RX6 yX6_isWetBy wsX6_isWetBy) := goodIn_app (goodIn_of _ (by decide +kernel)) ggX6_kindsFor_X6_isWetBy
theorem dX6_kindsFor_0 : decode cX6_kindsFor 0 = .ok (.iload_n 1, 1) := by decide +kernel
theorem dX6_kindsFor_1 : decode cX6_kindsFor 1 = .ok (.invokestatic 87, 3) := by decide +kernel
theorem dX6_kindsFor_4 : decode cX6_kindsFor 4 = .ok (.ifCond .eq 10, 3) := by decide +kernel
theorem dX6_kindsFor_7 : decode cX6_kindsFor 7 = .ok (.iload_n 2, 1) := by decide +kernel
theorem dX6_kindsFor_8 : decode cX6_kindsFor 8 = .ok (.invokestatic 176, 3) := by decide +kernel
theorem dX6_kindsFor_11 : decode cX6_kindsFor 11 = .ok (.ifCond .ne 9, 3) := by decide +kernel
theorem dX6_kindsFor_14 : decode cX6_kindsFor 14 = .ok (.aload_n 0, 1) := by decide +kernel
theorem dX6_kindsFor_15 : decode cX6_kindsFor 15 = .ok (.iconst 0, 1) := by decide +kernel
theorem dX6_kindsFor_16 : decode cX6_kindsFor 16 = .ok (.invokevirtual 96, 3) := by decide +kernel
theorem dX6_kindsFor_19 : decode cX6_kindsFor 19 = .ok (.ireturn, 1) := by decide +kernel
theorem dX6_kindsFor_20 : decode cX6_kindsFor 20 = .ok (.iconst 0, 1) := by decide +kernel
theorem dX6_kindsFor_21 : decode cX6_kindsFor 21 = .ok (.istore_n 3, 1) := by decide +kernel
theorem dX6_kindsFor_22 : decode cX6_kindsFor 22 = .ok (.iconst 0, 1) := by decide +kernel
theorem dX6_kindsFor_23 : decode cX6_kindsFor 23 = .ok (.istore 4, 2) := by decide +kernel
theorem dX6_kindsFor_25 : decode cX6_kindsFor 25 = .ok (.iload 4, 2) := by decide +kernel
theorem dX6_kindsFor_27 : decode cX6_kindsFor 27 = .ok (.bipush 6, 2) := by decide +kernel
theorem dX6_kindsFor_29 : decode cX6_kindsFor 29 = .ok (.if_icmp .gt 32, 3) := by decide +kernel
theorem dX6_kindsFor_32 : decode cX6_kindsFor 32 = .ok (.iload_n 3, 1) := by decide +kernel
theorem dX6_kindsFor_33 : decode cX6_kindsFor 33 = .ok (.aload_n 0, 1) := by decide +kernel
theorem dX6_kindsFor_34 : decode cX6_kindsFor 34 = .ok (.iload_n 1, 1) := by decide +kernel
theorem dX6_kindsFor_35 : decode cX6_kindsFor 35 = .ok (.iload_n 2, 1) := by decide +kernel
theorem dX6_kindsFor_36 : decode cX6_kindsFor 36 = .ok (.iconst 0, 1) := by decide +kernel
theorem dX6_kindsFor_37 : decode cX6_kindsFor 37 = .ok (.iload 4, 2) := by decide +kernel
theorem dX6_kindsFor_39 : decode cX6_kindsFor 39 = .ok (.invokevirtual 182, 3) := by decide +kernel
theorem dX6_kindsFor_42 : decode cX6_kindsFor 42 = .ok (.ifCond .eq 10, 3) := by decide +kernel
theorem dX6_kindsFor_45 : decode cX6_kindsFor 45 = .ok (.iconst 1, 1) := by decide +kernel
theorem dX6_kindsFor_46 : decode cX6_kindsFor 46 = .ok (.iload 4, 2) := by decide +kernel
theorem dX6_kindsFor_48 : decode cX6_kindsFor 48 = .ok (.ishl, 1) := by decide +kernel
theorem dX6_kindsFor_49 : decode cX6_kindsFor 49 = .ok (.goto 4, 3) := by decide +kernel
theorem dX6_kindsFor_52 : decode cX6_kindsFor 52 = .ok (.iconst 0, 1) := by decide +kernel
theorem dX6_kindsFor_53 : decode cX6_kindsFor 53 = .ok (.ior, 1) := by decide +kernel
theorem dX6_kindsFor_54 : decode cX6_kindsFor 54 = .ok (.istore_n 3, 1) := by decide +kernel
theorem dX6_kindsFor_55 : decode cX6_kindsFor 55 = .ok (.iinc 4 1, 3) := by decide +kernel
theorem dX6_kindsFor_58 : decode cX6_kindsFor 58 = .ok (.goto (-33), 3) := by decide +kernel
theorem dX6_kindsFor_61 : decode cX6_kindsFor 61 = .ok (.iload_n 3, 1) := by decide +kernel
theorem dX6_kindsFor_62 : decode cX6_kindsFor 62 = .ok (.ireturn, 1) := by decide +kernel
set_option maxRecDepth 20000 in
theorem ggX6_kindFor_X6_isHouse : GoodIn wsX6_kindFor wsX6_isHouse := goodIn_r _ [8, 9, 10, 11, 7, 12] (by decide +kernel) (by decide +kernel)
set_option maxRecDepth 20000 in
theorem gX6_kindFor_X6_isHouse : GoodIn wsX6_kindFor (va_wsS RX6 87 yX6_isHouse wsX6_isHouse) := goodIn_app (goodIn_of _ (by decide +kernel)) ggX6_kindFor_X6_isHouse
set_option maxRecDepth 20000 in
theorem ggX6_kindFor_X6_isSoon : GoodIn wsX6_kindFor wsX6_isSoon := goodIn_r _ [15, 16, 10, 11, 7, 12] (by decide +kernel) (by decide +kernel)
set_option maxRecDepth 20000 in
theorem gX6_kindFor_X6_isSoon : GoodIn wsX6_kindFor (va_wsS RX6 176 yX6_isSoon wsX6_isSoon) := goodIn_app (goodIn_of _ (by decide +kernel)) ggX6_kindFor_X6_isSoon
set_option maxRecDepth 20000 in
theorem ggX6_kindFor_X6_finds : GoodIn wsX6_kindFor wsX6_finds := goodIn_r _ [20, 21, 22, 96, 97, 98, 99, 100, 101, 102, 103, 104, 105, 106, 107, 108, 109, 110, 111, 112] (by decide +kernel) (by decide +kernel)
set_option maxRecDepth 20000 in
theorem gX6_kindFor_X6_finds : GoodIn wsX6_kindFor (wsV RX6 96 RX6 yX6_finds wsX6_finds) := goodIn_app (goodIn_of _ (by decide +kernel)) ggX6_kindFor_X6_finds
set_option maxRecDepth 20000 in
theorem ggX6_kindFor_X6_lends : GoodIn wsX6_kindFor wsX6_lends := goodIn_r _ [26, 27, 28, 29, 30, 7, 31, 96, 97, 98, 99, 100, 101, 102, 103, 104, 105, 106, 107, 108, 109, 110, 111, 112] (by decide +kernel) (by decide +kernel)
set_option maxRecDepth 20000 in
theorem gX6_kindFor_X6_lends : GoodIn wsX6_kindFor (wsV RX6 160 RX6 yX6_lends wsX6_lends) := goodIn_app (goodIn_of _ (by decide +kernel)) ggX6_kindFor_X6_lends
set_option maxRecDepth 20000 in
theorem ggX6_kindFor_X6_sets : GoodIn wsX6_kindFor wsX6_sets := goodIn_r _ [35, 27, 96, 97, 98, 99, 100, 101, 102, 103, 104, 105, 106, 107, 108, 109, 110, 111, 112] (by decide +kernel) (by decide +kernel)
set_option maxRecDepth 20000 in
theorem gX6_kindFor_X6_sets : GoodIn wsX6_kindFor (wsV RX6 43 RX6 yX6_sets wsX6_sets) := goodIn_app (goodIn_of _ (by decide +kernel)) ggX6_kindFor_X6_sets
set_option maxRecDepth 20000 in
theorem ggX6_kindFor_X6_alleyIn : GoodIn wsX6_kindFor wsX6_alleyIn := goodIn_r _ [39, 27, 40, 41, 42, 7, 43, 44, 45, 46, 47, 48, 49, 1, 2, 3, 4, 50, 51, 52, 53, 54, 55, 56, 57, 58, 59, 60, 61, 62, 63, 64, 65, 32, 33, 34, 35, 66, 67, 68, 69, 70, 71, 72, 73, 74, 75, 76, 77, 78, 79, 80, 81, 82, 83, 84, 85, 86, 87, 88, 89, 90, 91, 92, 93, 94, 95, 28, 29, 30, 31, 96, 97, 98, 99, 100, 101, 102, 103, 104, 105, 106, 107, 108, 109, 110, 111, 112] (by decide +kernel) (by decide +kernel)
set_option maxRecDepth 20000 in
theorem gX6_kindFor_X6_alleyIn : GoodIn wsX6_kindFor (wsV RX6 166 RX6 yX6_alleyIn wsX6_alleyIn) := goodIn_app (goodIn_of _ (by decide +kernel)) ggX6_kindFor_X6_alleyIn
theorem dX6_kindFor_0 : decode cX6_kindFor 0 = .ok (.iload_n 1, 1) := by decide +kernel
theorem dX6_kindFor_1 : decode cX6_kindFor 1 = .ok (.invokestatic 87, 3) := by decide +kernel
theorem dX6_kindFor_4 : decode cX6_kindFor 4 = .ok (.ifCond .eq 10, 3) := by decide +kernel
theorem dX6_kindFor_7 : decode cX6_kindFor 7 = .ok (.iload_n 2, 1) := by decide +kernel
theorem dX6_kindFor_8 : decode cX6_kindFor 8 = .ok (.invokestatic 176, 3) := by decide +kernel
theorem dX6_kindFor_11 : decode cX6_kindFor 11 = .ok (.ifCond .ne 9, 3) := by decide +kernel
theorem dX6_kindFor_14 : decode cX6_kindFor 14 = .ok (.aload_n 0, 1) := by decide +kernel
theorem dX6_kindFor_15 : decode cX6_kindFor 15 = .ok (.iconst 0, 1) := by decide +kernel
theorem dX6_kindFor_16 : decode cX6_kindFor 16 = .ok (.invokevirtual 96, 3) := by decide +kernel
theorem dX6_kindFor_19 : decode cX6_kindFor 19 = .ok (.ireturn, 1) := by decide +kernel
theorem dX6_kindFor_20 : decode cX6_kindFor 20 = .ok (.iconst 0, 1) := by decide +kernel
theorem dX6_kindFor_21 : decode cX6_kindFor 21 = .ok (.istore_n 3, 1) := by decide +kernel
theorem dX6_kindFor_22 : decode cX6_kindFor 22 = .ok (.iconst (-1), 1) := by decide +kernel
theorem dX6_kindFor_23 : decode cX6_kindFor 23 = .ok (.istore 4, 2) := by decide +kernel
theorem dX6_kindFor_25 : decode cX6_kindFor 25 = .ok (.iconst 0, 1) := by decide +kernel
theorem dX6_kindFor_26 : decode cX6_kindFor 26 = .ok (.istore 5, 2) := by decide +kernel
theorem dX6_kindFor_28 : decode cX6_kindFor 28 = .ok (.iload 5, 2) := by decide +kernel
theorem dX6_kindFor_30 : decode cX6_kindFor 30 = .ok (.bipush 6, 2) := by decide +kernel
theorem dX6_kindFor_32 : decode cX6_kindFor 32 = .ok (.if_icmp .gt 51, 3) := by decide +kernel
theorem dX6_kindFor_35 : decode cX6_kindFor 35 = .ok (.aload_n 0, 1) := by decide +kernel
theorem dX6_kindFor_36 : decode cX6_kindFor 36 = .ok (.invokevirtual 160, 3) := by decide +kernel
theorem dX6_kindFor_39 : decode cX6_kindFor 39 = .ok (.aload_n 0, 1) := by decide +kernel
theorem dX6_kindFor_40 : decode cX6_kindFor 40 = .ok (.iload_n 1, 1) := by decide +kernel
theorem dX6_kindFor_41 : decode cX6_kindFor 41 = .ok (.iconst 0, 1) := by decide +kernel
theorem dX6_kindFor_42 : decode cX6_kindFor 42 = .ok (.iload 5, 2) := by decide +kernel
theorem dX6_kindFor_44 : decode cX6_kindFor 44 = .ok (.invokevirtual 43, 3) := by decide +kernel
theorem dX6_kindFor_47 : decode cX6_kindFor 47 = .ok (.aload_n 0, 1) := by decide +kernel
theorem dX6_kindFor_48 : decode cX6_kindFor 48 = .ok (.iload_n 2, 1) := by decide +kernel
theorem dX6_kindFor_49 : decode cX6_kindFor 49 = .ok (.invokevirtual 166, 3) := by decide +kernel
theorem dX6_kindFor_52 : decode cX6_kindFor 52 = .ok (.istore 6, 2) := by decide +kernel
theorem dX6_kindFor_54 : decode cX6_kindFor 54 = .ok (.iload 6, 2) := by decide +kernel
theorem dX6_kindFor_56 : decode cX6_kindFor 56 = .ok (.iload 4, 2) := by decide +kernel
theorem dX6_kindFor_58 : decode cX6_kindFor 58 = .ok (.if_icmp .le 8, 3) := by decide +kernel
theorem dX6_kindFor_61 : decode cX6_kindFor 61 = .ok (.iload 5, 2) := by decide +kernel
theorem dX6_kindFor_63 : decode cX6_kindFor 63 = .ok (.goto 4, 3) := by decide +kernel
theorem dX6_kindFor_66 : decode cX6_kindFor 66 = .ok (.iload_n 3, 1) := by decide +kernel
theorem dX6_kindFor_67 : decode cX6_kindFor 67 = .ok (.istore_n 3, 1) := by decide +kernel
theorem dX6_kindFor_68 : decode cX6_kindFor 68 = .ok (.iload 4, 2) := by decide +kernel
theorem dX6_kindFor_70 : decode cX6_kindFor 70 = .ok (.iload 6, 2) := by decide +kernel
theorem dX6_kindFor_72 : decode cX6_kindFor 72 = .ok (.invokestatic 68, 3) := by decide +kernel
theorem dX6_kindFor_75 : decode cX6_kindFor 75 = .ok (.istore 4, 2) := by decide +kernel
theorem dX6_kindFor_77 : decode cX6_kindFor 77 = .ok (.iinc 5 1, 3) := by decide +kernel
theorem dX6_kindFor_80 : decode cX6_kindFor 80 = .ok (.goto (-52), 3) := by decide +kernel
theorem dX6_kindFor_83 : decode cX6_kindFor 83 = .ok (.iload_n 3, 1) := by decide +kernel
theorem dX6_kindFor_84 : decode cX6_kindFor 84 = .ok (.ireturn, 1) := by decide +kernel
set_option maxRecDepth 20000 in
theorem ggX6_turns_X6_its : GoodIn wsX6_turns wsX6_its := goodIn_r _ [5, 6, 11, 12, 13, 14, 15, 16, 17, 18, 19, 20, 21, 22, 23, 24, 25, 26, 27] (by decide +kernel) (by decide +kernel)
set_option maxRecDepth 20000 in
theorem gX6_turns_X6_its : GoodIn wsX6_turns (wsV RX6 64 RX6 yX6_its wsX6_its) := goodIn_app (goodIn_of _ (by decide +kernel)) ggX6_turns_X6_its
set_option maxRecDepth 20000 in
theorem ggX6_turns_X6_sets : GoodIn wsX6_turns wsX6_sets := goodIn_r _ [10, 6, 11, 12, 13, 14, 15, 16, 17, 18, 19, 20, 21, 22, 23, 24, 25, 26, 27] (by decide +kernel) (by decide +kernel)
set_option maxRecDepth 20000 in
theorem gX6_turns_X6_sets : GoodIn wsX6_turns (wsV RX6 43 RX6 yX6_sets wsX6_sets) := goodIn_app (goodIn_of _ (by decide +kernel)) ggX6_turns_X6_sets
theorem dX6_turns_0 : decode cX6_turns 0 = .ok (.aload_n 0, 1) := by decide +kernel
theorem dX6_turns_1 : decode cX6_turns 1 = .ok (.iload_n 1, 1) := by decide +kernel
theorem dX6_turns_2 : decode cX6_turns 2 = .ok (.iconst 4, 1) := by decide +kernel
theorem dX6_turns_3 : decode cX6_turns 3 = .ok (.iconst 1, 1) := by decide +kernel
theorem dX6_turns_4 : decode cX6_turns 4 = .ok (.aload_n 0, 1) := by decide +kernel
theorem dX6_turns_5 : decode cX6_turns 5 = .ok (.iload_n 1, 1) := by decide +kernel
theorem dX6_turns_6 : decode cX6_turns 6 = .ok (.iconst 4, 1) := by decide +kernel
theorem dX6_turns_7 : decode cX6_turns 7 = .ok (.invokevirtual 64, 3) := by decide +kernel
theorem dX6_turns_10 : decode cX6_turns 10 = .ok (.isub, 1) := by decide +kernel
theorem dX6_turns_11 : decode cX6_turns 11 = .ok (.invokevirtual 43, 3) := by decide +kernel
theorem dX6_turns_14 : decode cX6_turns 14 = .ok (.return_, 1) := by decide +kernel
set_option maxRecDepth 20000 in
theorem ggX6_dryBy_X6_lends : GoodIn wsX6_dryBy wsX6_lends := goodIn_r _ [5, 6, 7, 8, 9, 4, 10, 79, 80, 81, 82, 83, 84, 85, 86, 87, 88, 89, 90, 91, 92, 93, 94, 95] (by decide +kernel) (by decide +kernel)
set_option maxRecDepth 20000 in
theorem gX6_dryBy_X6_lends : GoodIn wsX6_dryBy (wsV RX6 160 RX6 yX6_lends wsX6_lends) := goodIn_app (goodIn_of _ (by decide +kernel)) ggX6_dryBy_X6_lends
set_option maxRecDepth 20000 in
theorem ggX6_dryBy_X6_turns : GoodIn wsX6_dryBy wsX6_turns := goodIn_r _ [14, 15, 16, 17, 4, 18, 6, 19, 20, 21, 22, 79, 80, 81, 82, 83, 84, 85, 86, 87, 88, 89, 90, 91, 92, 93, 94, 95] (by decide +kernel) (by decide +kernel)
set_option maxRecDepth 20000 in
theorem gX6_dryBy_X6_turns : GoodIn wsX6_dryBy (wsV RX6 186 RX6 yX6_turns wsX6_turns) := goodIn_app (goodIn_of _ (by decide +kernel)) ggX6_dryBy_X6_turns
set_option maxRecDepth 20000 in
theorem ggX6_dryBy_X6_dryIn : GoodIn wsX6_dryBy wsX6_dryIn := goodIn_r _ [26, 27, 28, 29, 30, 4, 31, 6, 32, 33, 34, 35, 36, 37, 38, 39, 40, 41, 42, 43, 44, 15, 16, 17, 18, 45, 46, 47, 48, 19, 20, 21, 22, 49, 50, 51, 52, 53, 54, 55, 56, 57, 58, 59, 60, 61, 62, 63, 64, 65, 66, 67, 68, 69, 70, 71, 72, 73, 74, 79, 80, 81, 82, 83, 84, 85, 86, 87, 88, 89, 90, 91, 92, 93, 94, 95] (by decide +kernel) (by decide +kernel)
set_option maxRecDepth 20000 in
theorem gX6_dryBy_X6_dryIn : GoodIn wsX6_dryBy (wsV RX6 169 RX6 yX6_dryIn wsX6_dryIn) := goodIn_app (goodIn_of _ (by decide +kernel)) ggX6_dryBy_X6_dryIn
set_option maxRecDepth 20000 in
theorem ggX6_dryBy_X6_laysBack : GoodIn wsX6_dryBy wsX6_laysBack := goodIn_r _ [78, 7, 6, 8, 9, 4, 10, 79, 80, 81, 82, 83, 84, 85, 86, 87, 88, 89, 90, 91, 92, 93, 94, 95] (by decide +kernel) (by decide +kernel)
set_option maxRecDepth 20000 in
theorem gX6_dryBy_X6_laysBack : GoodIn wsX6_dryBy (wsV RX6 163 RX6 yX6_laysBack wsX6_laysBack) := goodIn_app (goodIn_of _ (by decide +kernel)) ggX6_dryBy_X6_laysBack
theorem dX6_dryBy_0 : decode cX6_dryBy 0 = .ok (.aload_n 0, 1) := by decide +kernel
theorem dX6_dryBy_1 : decode cX6_dryBy 1 = .ok (.invokevirtual 160, 3) := by decide +kernel
theorem dX6_dryBy_4 : decode cX6_dryBy 4 = .ok (.iconst 0, 1) := by decide +kernel
theorem dX6_dryBy_5 : decode cX6_dryBy 5 = .ok (.istore_n 3, 1) := by decide +kernel
theorem dX6_dryBy_6 : decode cX6_dryBy 6 = .ok (.iload_n 3, 1) := by decide +kernel
theorem dX6_dryBy_7 : decode cX6_dryBy 7 = .ok (.bipush 11, 2) := by decide +kernel
theorem dX6_dryBy_9 : decode cX6_dryBy 9 = .ok (.if_icmp .ge 23, 3) := by decide +kernel
theorem dX6_dryBy_12 : decode cX6_dryBy 12 = .ok (.iload_n 1, 1) := by decide +kernel
theorem dX6_dryBy_13 : decode cX6_dryBy 13 = .ok (.iload_n 3, 1) := by decide +kernel
theorem dX6_dryBy_14 : decode cX6_dryBy 14 = .ok (.ishr, 1) := by decide +kernel
theorem dX6_dryBy_15 : decode cX6_dryBy 15 = .ok (.iconst 1, 1) := by decide +kernel
theorem dX6_dryBy_16 : decode cX6_dryBy 16 = .ok (.iand, 1) := by decide +kernel
theorem dX6_dryBy_17 : decode cX6_dryBy 17 = .ok (.iconst 1, 1) := by decide +kernel
theorem dX6_dryBy_18 : decode cX6_dryBy 18 = .ok (.if_icmp .ne 8, 3) := by decide +kernel
theorem dX6_dryBy_21 : decode cX6_dryBy 21 = .ok (.aload_n 0, 1) := by decide +kernel
theorem dX6_dryBy_22 : decode cX6_dryBy 22 = .ok (.iload_n 3, 1) := by decide +kernel
theorem dX6_dryBy_23 : decode cX6_dryBy 23 = .ok (.invokevirtual 186, 3) := by decide +kernel
theorem dX6_dryBy_26 : decode cX6_dryBy 26 = .ok (.iinc 3 1, 3) := by decide +kernel
theorem dX6_dryBy_29 : decode cX6_dryBy 29 = .ok (.goto (-23), 3) := by decide +kernel
theorem dX6_dryBy_32 : decode cX6_dryBy 32 = .ok (.aload_n 0, 1) := by decide +kernel
theorem dX6_dryBy_33 : decode cX6_dryBy 33 = .ok (.iload_n 2, 1) := by decide +kernel
theorem dX6_dryBy_34 : decode cX6_dryBy 34 = .ok (.invokevirtual 169, 3) := by decide +kernel
theorem dX6_dryBy_37 : decode cX6_dryBy 37 = .ok (.istore_n 3, 1) := by decide +kernel
theorem dX6_dryBy_38 : decode cX6_dryBy 38 = .ok (.aload_n 0, 1) := by decide +kernel
theorem dX6_dryBy_39 : decode cX6_dryBy 39 = .ok (.invokevirtual 163, 3) := by decide +kernel
theorem dX6_dryBy_42 : decode cX6_dryBy 42 = .ok (.iload_n 3, 1) := by decide +kernel
theorem dX6_dryBy_43 : decode cX6_dryBy 43 = .ok (.ireturn, 1) := by decide +kernel
set_option maxRecDepth 20000 in
theorem ggX6_turn_X6_in : GoodIn wsX6_turn wsX6_in := goodIn_r _ [6] (by decide +kernel) (by decide +kernel)
set_option maxRecDepth 20000 in
theorem gX6_turn_X6_in : GoodIn wsX6_turn (va_wsS RX6 54 yX6_in wsX6_in) := goodIn_app (goodIn_of _ (by decide +kernel)) ggX6_turn_X6_in
set_option maxRecDepth 20000 in
theorem ggX6_turn_X6_finds : GoodIn wsX6_turn wsX6_finds := goodIn_r _ [10, 11, 12, 97, 98, 99, 100, 101, 102, 103, 104, 105, 106, 107, 108, 109, 110, 111, 112, 113] (by decide +kernel) (by decide +kernel)
set_option maxRecDepth 20000 in
theorem gX6_turn_X6_finds : GoodIn wsX6_turn (wsV RX6 96 RX6 yX6_finds wsX6_finds) := goodIn_app (goodIn_of _ (by decide +kernel)) ggX6_turn_X6_finds
set_option maxRecDepth 20000 in
theorem ggX6_turn_X6_ones : GoodIn wsX6_turn wsX6_ones := goodIn_r _ [15] (by decide +kernel) (by decide +kernel)
set_option maxRecDepth 20000 in
theorem gX6_turn_X6_ones : GoodIn wsX6_turn (va_wsS RX6 191 yX6_ones wsX6_ones) := goodIn_app (goodIn_of _ (by decide +kernel)) ggX6_turn_X6_ones
set_option maxRecDepth 20000 in
theorem ggX6_turn_X6_dryBy : GoodIn wsX6_turn wsX6_dryBy := goodIn_r _ [19, 20, 21, 22, 5, 23, 24, 25, 26, 27, 28, 29, 30, 31, 32, 33, 34, 35, 36, 37, 38, 39, 40, 41, 42, 43, 44, 45, 46, 47, 48, 49, 50, 51, 52, 53, 54, 55, 56, 57, 58, 59, 60, 61, 62, 63, 64, 65, 66, 67, 68, 69, 70, 71, 72, 73, 74, 75, 76, 77, 78, 79, 80, 81, 82, 83, 84, 85, 86, 87, 88, 89, 90, 91, 92, 93, 94, 95, 96, 97, 98, 99, 100, 101, 102, 103, 104, 105, 106, 107, 108, 109, 110, 111, 112, 113] (by decide +kernel) (by decide +kernel)
set_option maxRecDepth 20000 in
theorem gX6_turn_X6_dryBy : GoodIn wsX6_turn (wsV RX6 194 RX6 yX6_dryBy wsX6_dryBy) := goodIn_app (goodIn_of _ (by decide +kernel)) ggX6_turn_X6_dryBy
theorem dX6_turn_0 : decode cX6_turn 0 = .ok (.iload_n 1, 1) := by decide +kernel
theorem dX6_turn_1 : decode cX6_turn 1 = .ok (.i2l, 1) := by decide +kernel
theorem dX6_turn_2 : decode cX6_turn 2 = .ok (.lconst 0, 1) := by decide +kernel
theorem dX6_turn_3 : decode cX6_turn 3 = .ok (.ldc2_w 113, 3) := by decide +kernel
theorem dX6_turn_6 : decode cX6_turn 6 = .ok (.invokestatic 54, 3) := by decide +kernel
theorem dX6_turn_9 : decode cX6_turn 9 = .ok (.ifCond .eq 15, 3) := by decide +kernel
theorem dX6_turn_12 : decode cX6_turn 12 = .ok (.iload_n 2, 1) := by decide +kernel
theorem dX6_turn_13 : decode cX6_turn 13 = .ok (.i2l, 1) := by decide +kernel
theorem dX6_turn_14 : decode cX6_turn 14 = .ok (.lconst 0, 1) := by decide +kernel
theorem dX6_turn_15 : decode cX6_turn 15 = .ok (.ldc2_w 189, 3) := by decide +kernel
theorem dX6_turn_18 : decode cX6_turn 18 = .ok (.invokestatic 54, 3) := by decide +kernel
theorem dX6_turn_21 : decode cX6_turn 21 = .ok (.ifCond .ne 9, 3) := by decide +kernel
theorem dX6_turn_24 : decode cX6_turn 24 = .ok (.aload_n 0, 1) := by decide +kernel
theorem dX6_turn_25 : decode cX6_turn 25 = .ok (.iconst 0, 1) := by decide +kernel
theorem dX6_turn_26 : decode cX6_turn 26 = .ok (.invokevirtual 96, 3) := by decide +kernel
theorem dX6_turn_29 : decode cX6_turn 29 = .ok (.ireturn, 1) := by decide +kernel
theorem dX6_turn_30 : decode cX6_turn 30 = .ok (.iconst (-1), 1) := by decide +kernel
theorem dX6_turn_31 : decode cX6_turn 31 = .ok (.istore_n 3, 1) := by decide +kernel
theorem dX6_turn_32 : decode cX6_turn 32 = .ok (.iconst 0, 1) := by decide +kernel
theorem dX6_turn_33 : decode cX6_turn 33 = .ok (.istore 4, 2) := by decide +kernel
theorem dX6_turn_35 : decode cX6_turn 35 = .ok (.iload 4, 2) := by decide +kernel
theorem dX6_turn_37 : decode cX6_turn 37 = .ok (.sipush 2047, 3) := by decide +kernel
theorem dX6_turn_40 : decode cX6_turn 40 = .ok (.if_icmp .gt 56, 3) := by decide +kernel
theorem dX6_turn_43 : decode cX6_turn 43 = .ok (.iload_n 3, 1) := by decide +kernel
theorem dX6_turn_44 : decode cX6_turn 44 = .ok (.ifCond .lt 15, 3) := by decide +kernel
theorem dX6_turn_47 : decode cX6_turn 47 = .ok (.iload 4, 2) := by decide +kernel
theorem dX6_turn_49 : decode cX6_turn 49 = .ok (.invokestatic 191, 3) := by decide +kernel
theorem dX6_turn_52 : decode cX6_turn 52 = .ok (.iload_n 3, 1) := by decide +kernel
theorem dX6_turn_53 : decode cX6_turn 53 = .ok (.invokestatic 191, 3) := by decide +kernel
theorem dX6_turn_56 : decode cX6_turn 56 = .ok (.if_icmp .ge 7, 3) := by decide +kernel
theorem dX6_turn_59 : decode cX6_turn 59 = .ok (.iconst 1, 1) := by decide +kernel
theorem dX6_turn_60 : decode cX6_turn 60 = .ok (.goto 4, 3) := by decide +kernel
theorem dX6_turn_63 : decode cX6_turn 63 = .ok (.iconst 0, 1) := by decide +kernel
theorem dX6_turn_64 : decode cX6_turn 64 = .ok (.istore 5, 2) := by decide +kernel
theorem dX6_turn_66 : decode cX6_turn 66 = .ok (.iload 5, 2) := by decide +kernel
theorem dX6_turn_68 : decode cX6_turn 68 = .ok (.ifCond .eq 20, 3) := by decide +kernel
theorem dX6_turn_71 : decode cX6_turn 71 = .ok (.aload_n 0, 1) := by decide +kernel
theorem dX6_turn_72 : decode cX6_turn 72 = .ok (.iload 4, 2) := by decide +kernel
theorem dX6_turn_74 : decode cX6_turn 74 = .ok (.iload_n 2, 1) := by decide +kernel
theorem dX6_turn_75 : decode cX6_turn 75 = .ok (.invokevirtual 194, 3) := by decide +kernel
theorem dX6_turn_78 : decode cX6_turn 78 = .ok (.iload_n 1, 1) := by decide +kernel
theorem dX6_turn_79 : decode cX6_turn 79 = .ok (.iand, 1) := by decide +kernel
theorem dX6_turn_80 : decode cX6_turn 80 = .ok (.ifCond .ne 8, 3) := by decide +kernel
theorem dX6_turn_83 : decode cX6_turn 83 = .ok (.iload 4, 2) := by decide +kernel
theorem dX6_turn_85 : decode cX6_turn 85 = .ok (.goto 4, 3) := by decide +kernel
theorem dX6_turn_88 : decode cX6_turn 88 = .ok (.iload_n 3, 1) := by decide +kernel
theorem dX6_turn_89 : decode cX6_turn 89 = .ok (.istore_n 3, 1) := by decide +kernel
theorem dX6_turn_90 : decode cX6_turn 90 = .ok (.iinc 4 1, 3) := by decide +kernel
theorem dX6_turn_93 : decode cX6_turn 93 = .ok (.goto (-58), 3) := by decide +kernel
theorem dX6_turn_96 : decode cX6_turn 96 = .ok (.iload_n 3, 1) := by decide +kernel
theorem dX6_turn_97 : decode cX6_turn 97 = .ok (.ifCond .ge 11, 3) := by decide +kernel
theorem dX6_turn_100 : decode cX6_turn 100 = .ok (.aload_n 0, 1) := by decide +kernel
theorem dX6_turn_101 : decode cX6_turn 101 = .ok (.iconst 3, 1) := by decide +kernel
theorem dX6_turn_102 : decode cX6_turn 102 = .ok (.invokevirtual 96, 3) := by decide +kernel
theorem dX6_turn_105 : decode cX6_turn 105 = .ok (.goto 4, 3) := by decide +kernel
theorem dX6_turn_108 : decode cX6_turn 108 = .ok (.iload_n 3, 1) := by decide +kernel
theorem dX6_turn_109 : decode cX6_turn 109 = .ok (.ireturn, 1) := by decide +kernel
set_option maxRecDepth 20000 in
theorem ggX6_best_X6_isSoon : GoodIn wsX6_best wsX6_isSoon := goodIn_r _ [8, 9, 10, 11, 7, 12] (by decide +kernel) (by decide +kernel)
set_option maxRecDepth 20000 in
theorem gX6_best_X6_isSoon : GoodIn wsX6_best (va_wsS RX6 176 yX6_isSoon wsX6_isSoon) := goodIn_app (goodIn_of _ (by decide +kernel)) ggX6_best_X6_isSoon
set_option maxRecDepth 20000 in
theorem ggX6_best_X6_finds : GoodIn wsX6_best wsX6_finds := goodIn_r _ [16, 17, 18, 99, 100, 101, 102, 103, 104, 105, 106, 107, 108, 109, 110, 111, 112, 113, 114, 115] (by decide +kernel) (by decide +kernel)
set_option maxRecDepth 20000 in
theorem gX6_best_X6_finds : GoodIn wsX6_best (wsV RX6 96 RX6 yX6_finds wsX6_finds) := goodIn_app (goodIn_of _ (by decide +kernel)) ggX6_best_X6_finds
set_option maxRecDepth 20000 in
theorem ggX6_best_X6_dryBy : GoodIn wsX6_best wsX6_dryBy := goodIn_r _ [22, 23, 24, 25, 7, 26, 27, 28, 29, 30, 31, 32, 33, 34, 35, 36, 37, 38, 39, 40, 41, 42, 43, 44, 45, 46, 47, 48, 49, 50, 51, 52, 53, 54, 55, 3, 56, 1, 2, 4, 57, 58, 59, 60, 61, 62, 63, 64, 65, 66, 67, 68, 69, 70, 71, 72, 73, 74, 75, 76, 77, 78, 79, 80, 81, 82, 83, 84, 85, 86, 87, 88, 89, 90, 91, 92, 93, 94, 95, 99, 100, 101, 102, 103, 104, 105, 106, 107, 108, 109, 110, 111, 112, 113, 114, 115] (by decide +kernel) (by decide +kernel)
set_option maxRecDepth 20000 in
theorem gX6_best_X6_dryBy : GoodIn wsX6_best (wsV RX6 194 RX6 yX6_dryBy wsX6_dryBy) := goodIn_app (goodIn_of _ (by decide +kernel)) ggX6_best_X6_dryBy
set_option maxRecDepth 20000 in
theorem ggX6_best_X6_ones : GoodIn wsX6_best wsX6_ones := goodIn_r _ [98] (by decide +kernel) (by decide +kernel)
set_option maxRecDepth 20000 in
theorem gX6_best_X6_ones : GoodIn wsX6_best (va_wsS RX6 191 yX6_ones wsX6_ones) := goodIn_app (goodIn_of _ (by decide +kernel)) ggX6_best_X6_ones
theorem dX6_best_0 : decode cX6_best 0 = .ok (.iload_n 1, 1) := by decide +kernel
theorem dX6_best_1 : decode cX6_best 1 = .ok (.invokestatic 176, 3) := by decide +kernel
theorem dX6_best_4 : decode cX6_best 4 = .ok (.ifCond .ne 9, 3) := by decide +kernel
theorem dX6_best_7 : decode cX6_best 7 = .ok (.aload_n 0, 1) := by decide +kernel
theorem dX6_best_8 : decode cX6_best 8 = .ok (.iconst 0, 1) := by decide +kernel
theorem dX6_best_9 : decode cX6_best 9 = .ok (.invokevirtual 96, 3) := by decide +kernel
theorem dX6_best_12 : decode cX6_best 12 = .ok (.ireturn, 1) := by decide +kernel
theorem dX6_best_13 : decode cX6_best 13 = .ok (.iconst 0, 1) := by decide +kernel
theorem dX6_best_14 : decode cX6_best 14 = .ok (.istore_n 2, 1) := by decide +kernel
theorem dX6_best_15 : decode cX6_best 15 = .ok (.bipush 12, 2) := by decide +kernel
theorem dX6_best_17 : decode cX6_best 17 = .ok (.istore_n 3, 1) := by decide +kernel
theorem dX6_best_18 : decode cX6_best 18 = .ok (.iconst 0, 1) := by decide +kernel
theorem dX6_best_19 : decode cX6_best 19 = .ok (.istore 4, 2) := by decide +kernel
theorem dX6_best_21 : decode cX6_best 21 = .ok (.iload 4, 2) := by decide +kernel
theorem dX6_best_23 : decode cX6_best 23 = .ok (.bipush 11, 2) := by decide +kernel
theorem dX6_best_25 : decode cX6_best 25 = .ok (.if_icmp .ge 43, 3) := by decide +kernel
theorem dX6_best_28 : decode cX6_best 28 = .ok (.aload_n 0, 1) := by decide +kernel
theorem dX6_best_29 : decode cX6_best 29 = .ok (.iconst 1, 1) := by decide +kernel
theorem dX6_best_30 : decode cX6_best 30 = .ok (.iload 4, 2) := by decide +kernel
theorem dX6_best_32 : decode cX6_best 32 = .ok (.ishl, 1) := by decide +kernel
theorem dX6_best_33 : decode cX6_best 33 = .ok (.iload_n 1, 1) := by decide +kernel
theorem dX6_best_34 : decode cX6_best 34 = .ok (.invokevirtual 194, 3) := by decide +kernel
theorem dX6_best_37 : decode cX6_best 37 = .ok (.invokestatic 191, 3) := by decide +kernel
theorem dX6_best_40 : decode cX6_best 40 = .ok (.istore 5, 2) := by decide +kernel
theorem dX6_best_42 : decode cX6_best 42 = .ok (.iload 5, 2) := by decide +kernel
theorem dX6_best_44 : decode cX6_best 44 = .ok (.iload_n 3, 1) := by decide +kernel
theorem dX6_best_45 : decode cX6_best 45 = .ok (.if_icmp .ge 8, 3) := by decide +kernel
theorem dX6_best_48 : decode cX6_best 48 = .ok (.iload 4, 2) := by decide +kernel
theorem dX6_best_50 : decode cX6_best 50 = .ok (.goto 4, 3) := by decide +kernel
theorem dX6_best_53 : decode cX6_best 53 = .ok (.iload_n 2, 1) := by decide +kernel
theorem dX6_best_54 : decode cX6_best 54 = .ok (.istore_n 2, 1) := by decide +kernel
theorem dX6_best_55 : decode cX6_best 55 = .ok (.iload_n 3, 1) := by decide +kernel
theorem dX6_best_56 : decode cX6_best 56 = .ok (.iload 5, 2) := by decide +kernel
theorem dX6_best_58 : decode cX6_best 58 = .ok (.invokestatic 120, 3) := by decide +kernel
theorem dX6_best_61 : decode cX6_best 61 = .ok (.istore_n 3, 1) := by decide +kernel
theorem dX6_best_62 : decode cX6_best 62 = .ok (.iinc 4 1, 3) := by decide +kernel
theorem dX6_best_65 : decode cX6_best 65 = .ok (.goto (-44), 3) := by decide +kernel
theorem dX6_best_68 : decode cX6_best 68 = .ok (.iload_n 2, 1) := by decide +kernel
theorem dX6_best_69 : decode cX6_best 69 = .ok (.ireturn, 1) := by decide +kernel
set_option maxRecDepth 20000 in
theorem ggX6_love_X6_isHouse : GoodIn wsX6_love wsX6_isHouse := goodIn_r _ [8, 9, 10, 11, 7, 12] (by decide +kernel) (by decide +kernel)
set_option maxRecDepth 20000 in
theorem gX6_love_X6_isHouse : GoodIn wsX6_love (va_wsS RX6 87 yX6_isHouse wsX6_isHouse) := goodIn_app (goodIn_of _ (by decide +kernel)) ggX6_love_X6_isHouse
set_option maxRecDepth 20000 in
theorem ggX6_love_X6_isSoon : GoodIn wsX6_love wsX6_isSoon := goodIn_r _ [15, 16, 10, 11, 7, 12] (by decide +kernel) (by decide +kernel)
set_option maxRecDepth 20000 in
theorem gX6_love_X6_isSoon : GoodIn wsX6_love (va_wsS RX6 176 yX6_isSoon wsX6_isSoon) := goodIn_app (goodIn_of _ (by decide +kernel)) ggX6_love_X6_isSoon
set_option maxRecDepth 20000 in
theorem ggX6_love_X6_finds : GoodIn wsX6_love wsX6_finds := goodIn_r _ [20, 21, 22, 96, 97, 98, 99, 100, 101, 102, 103, 104, 105, 106, 107, 108, 109, 110, 111, 112] (by decide +kernel) (by decide +kernel)
set_option maxRecDepth 20000 in
theorem gX6_love_X6_finds : GoodIn wsX6_love (wsV RX6 96 RX6 yX6_finds wsX6_finds) := goodIn_app (goodIn_of _ (by decide +kernel)) ggX6_love_X6_finds
set_option maxRecDepth 20000 in
theorem ggX6_love_X6_lends : GoodIn wsX6_love wsX6_lends := goodIn_r _ [26, 27, 28, 29, 30, 7, 31, 96, 97, 98, 99, 100, 101, 102, 103, 104, 105, 106, 107, 108, 109, 110, 111, 112] (by decide +kernel) (by decide +kernel)
set_option maxRecDepth 20000 in
theorem gX6_love_X6_lends : GoodIn wsX6_love (wsV RX6 160 RX6 yX6_lends wsX6_lends) := goodIn_app (goodIn_of _ (by decide +kernel)) ggX6_love_X6_lends
set_option maxRecDepth 20000 in
theorem ggX6_love_X6_turns : GoodIn wsX6_love wsX6_turns := goodIn_r _ [35, 36, 37, 38, 7, 39, 27, 40, 41, 42, 43, 96, 97, 98, 99, 100, 101, 102, 103, 104, 105, 106, 107, 108, 109, 110, 111, 112] (by decide +kernel) (by decide +kernel)
set_option maxRecDepth 20000 in
theorem gX6_love_X6_turns : GoodIn wsX6_love (wsV RX6 186 RX6 yX6_turns wsX6_turns) := goodIn_app (goodIn_of _ (by decide +kernel)) ggX6_love_X6_turns
set_option maxRecDepth 20000 in
theorem ggX6_love_X6_hours : GoodIn wsX6_love wsX6_hours := goodIn_r _ [47, 48, 49, 50, 7, 51, 52, 27, 53, 1, 2, 3, 4, 54, 55, 56, 57, 58, 59, 60, 61, 36, 37, 38, 39, 62, 63, 64, 65, 40, 41, 42, 43, 66, 67, 68, 69, 70, 71, 72, 73, 74, 75, 76, 77, 78, 79, 80, 81, 82, 83, 84, 85, 86, 87, 88, 89, 90, 91, 96, 97, 98, 99, 100, 101, 102, 103, 104, 105, 106, 107, 108, 109, 110, 111, 112] (by decide +kernel) (by decide +kernel)
set_option maxRecDepth 20000 in
theorem gX6_love_X6_hours : GoodIn wsX6_love (wsV RX6 144 RX6 yX6_hours wsX6_hours) := goodIn_app (goodIn_of _ (by decide +kernel)) ggX6_love_X6_hours
set_option maxRecDepth 20000 in
theorem ggX6_love_X6_its : GoodIn wsX6_love wsX6_its := goodIn_r _ [39, 27, 96, 97, 98, 99, 100, 101, 102, 103, 104, 105, 106, 107, 108, 109, 110, 111, 112] (by decide +kernel) (by decide +kernel)
set_option maxRecDepth 20000 in
theorem gX6_love_X6_its : GoodIn wsX6_love (wsV RX6 64 RX6 yX6_its wsX6_its) := goodIn_app (goodIn_of _ (by decide +kernel)) ggX6_love_X6_its
set_option maxRecDepth 20000 in
theorem ggX6_love_X6_laysBack : GoodIn wsX6_love wsX6_laysBack := goodIn_r _ [95, 28, 27, 29, 30, 7, 31, 96, 97, 98, 99, 100, 101, 102, 103, 104, 105, 106, 107, 108, 109, 110, 111, 112] (by decide +kernel) (by decide +kernel)
set_option maxRecDepth 20000 in
theorem gX6_love_X6_laysBack : GoodIn wsX6_love (wsV RX6 163 RX6 yX6_laysBack wsX6_laysBack) := goodIn_app (goodIn_of _ (by decide +kernel)) ggX6_love_X6_laysBack
theorem dX6_love_0 : decode cX6_love 0 = .ok (.iload_n 1, 1) := by decide +kernel
theorem dX6_love_1 : decode cX6_love 1 = .ok (.invokestatic 87, 3) := by decide +kernel
theorem dX6_love_4 : decode cX6_love 4 = .ok (.ifCond .eq 10, 3) := by decide +kernel
theorem dX6_love_7 : decode cX6_love 7 = .ok (.iload_n 2, 1) := by decide +kernel
theorem dX6_love_8 : decode cX6_love 8 = .ok (.invokestatic 176, 3) := by decide +kernel
theorem dX6_love_11 : decode cX6_love 11 = .ok (.ifCond .ne 9, 3) := by decide +kernel
theorem dX6_love_14 : decode cX6_love 14 = .ok (.aload_n 0, 1) := by decide +kernel
theorem dX6_love_15 : decode cX6_love 15 = .ok (.iconst 0, 1) := by decide +kernel
theorem dX6_love_16 : decode cX6_love 16 = .ok (.invokevirtual 96, 3) := by decide +kernel
theorem dX6_love_19 : decode cX6_love 19 = .ok (.ireturn, 1) := by decide +kernel
theorem dX6_love_20 : decode cX6_love 20 = .ok (.iconst 0, 1) := by decide +kernel
theorem dX6_love_21 : decode cX6_love 21 = .ok (.istore_n 3, 1) := by decide +kernel
theorem dX6_love_22 : decode cX6_love 22 = .ok (.iconst (-1), 1) := by decide +kernel
theorem dX6_love_23 : decode cX6_love 23 = .ok (.istore 4, 2) := by decide +kernel
theorem dX6_love_25 : decode cX6_love 25 = .ok (.iconst 0, 1) := by decide +kernel
theorem dX6_love_26 : decode cX6_love 26 = .ok (.istore 5, 2) := by decide +kernel
theorem dX6_love_28 : decode cX6_love 28 = .ok (.iload 5, 2) := by decide +kernel
theorem dX6_love_30 : decode cX6_love 30 = .ok (.bipush 11, 2) := by decide +kernel
theorem dX6_love_32 : decode cX6_love 32 = .ok (.if_icmp .ge 59, 3) := by decide +kernel
theorem dX6_love_35 : decode cX6_love 35 = .ok (.aload_n 0, 1) := by decide +kernel
theorem dX6_love_36 : decode cX6_love 36 = .ok (.invokevirtual 160, 3) := by decide +kernel
theorem dX6_love_39 : decode cX6_love 39 = .ok (.aload_n 0, 1) := by decide +kernel
theorem dX6_love_40 : decode cX6_love 40 = .ok (.iload 5, 2) := by decide +kernel
theorem dX6_love_42 : decode cX6_love 42 = .ok (.invokevirtual 186, 3) := by decide +kernel
theorem dX6_love_45 : decode cX6_love 45 = .ok (.aload_n 0, 1) := by decide +kernel
theorem dX6_love_46 : decode cX6_love 46 = .ok (.iload_n 2, 1) := by decide +kernel
theorem dX6_love_47 : decode cX6_love 47 = .ok (.invokevirtual 144, 3) := by decide +kernel
theorem dX6_love_50 : decode cX6_love 50 = .ok (.aload_n 0, 1) := by decide +kernel
theorem dX6_love_51 : decode cX6_love 51 = .ok (.iload_n 1, 1) := by decide +kernel
theorem dX6_love_52 : decode cX6_love 52 = .ok (.iconst 1, 1) := by decide +kernel
theorem dX6_love_53 : decode cX6_love 53 = .ok (.invokevirtual 64, 3) := by decide +kernel
theorem dX6_love_56 : decode cX6_love 56 = .ok (.istore 6, 2) := by decide +kernel
theorem dX6_love_58 : decode cX6_love 58 = .ok (.aload_n 0, 1) := by decide +kernel
theorem dX6_love_59 : decode cX6_love 59 = .ok (.invokevirtual 163, 3) := by decide +kernel
theorem dX6_love_62 : decode cX6_love 62 = .ok (.iload 6, 2) := by decide +kernel
theorem dX6_love_64 : decode cX6_love 64 = .ok (.iload 4, 2) := by decide +kernel
theorem dX6_love_66 : decode cX6_love 66 = .ok (.if_icmp .le 8, 3) := by decide +kernel
theorem dX6_love_69 : decode cX6_love 69 = .ok (.iload 5, 2) := by decide +kernel
theorem dX6_love_71 : decode cX6_love 71 = .ok (.goto 4, 3) := by decide +kernel
theorem dX6_love_74 : decode cX6_love 74 = .ok (.iload_n 3, 1) := by decide +kernel
theorem dX6_love_75 : decode cX6_love 75 = .ok (.istore_n 3, 1) := by decide +kernel
theorem dX6_love_76 : decode cX6_love 76 = .ok (.iload 4, 2) := by decide +kernel
theorem dX6_love_78 : decode cX6_love 78 = .ok (.iload 6, 2) := by decide +kernel
theorem dX6_love_80 : decode cX6_love 80 = .ok (.invokestatic 68, 3) := by decide +kernel
theorem dX6_love_83 : decode cX6_love 83 = .ok (.istore 4, 2) := by decide +kernel
theorem dX6_love_85 : decode cX6_love 85 = .ok (.iinc 5 1, 3) := by decide +kernel
theorem dX6_love_88 : decode cX6_love 88 = .ok (.goto (-60), 3) := by decide +kernel
theorem dX6_love_91 : decode cX6_love 91 = .ok (.iload_n 3, 1) := by decide +kernel
theorem dX6_love_92 : decode cX6_love 92 = .ok (.ireturn, 1) := by decide +kernel
set_option maxRecDepth 20000 in
theorem ggX6_burst_X6_isHouse : GoodIn wsX6_burst wsX6_isHouse := goodIn_r _ [5, 6, 7, 8, 4, 9] (by decide +kernel) (by decide +kernel)
set_option maxRecDepth 20000 in
theorem gX6_burst_X6_isHouse : GoodIn wsX6_burst (va_wsS RX6 87 yX6_isHouse wsX6_isHouse) := goodIn_app (goodIn_of _ (by decide +kernel)) ggX6_burst_X6_isHouse
set_option maxRecDepth 20000 in
theorem ggX6_burst_X6_in : GoodIn wsX6_burst wsX6_in := goodIn_r _ [9] (by decide +kernel) (by decide +kernel)
set_option maxRecDepth 20000 in
theorem gX6_burst_X6_in : GoodIn wsX6_burst (va_wsS RX6 54 yX6_in wsX6_in) := goodIn_app (goodIn_of _ (by decide +kernel)) ggX6_burst_X6_in
set_option maxRecDepth 20000 in
theorem ggX6_burst_X6_isSoon : GoodIn wsX6_burst wsX6_isSoon := goodIn_r _ [12, 13, 7, 8, 4, 9] (by decide +kernel) (by decide +kernel)
set_option maxRecDepth 20000 in
theorem gX6_burst_X6_isSoon : GoodIn wsX6_burst (va_wsS RX6 176 yX6_isSoon wsX6_isSoon) := goodIn_app (goodIn_of _ (by decide +kernel)) ggX6_burst_X6_isSoon
set_option maxRecDepth 20000 in
theorem ggX6_burst_X6_finds : GoodIn wsX6_burst wsX6_finds := goodIn_r _ [17, 18, 19, 97, 98, 99, 100, 101, 102, 103, 104, 105, 106, 107, 108, 109, 110, 111, 112, 113] (by decide +kernel) (by decide +kernel)
set_option maxRecDepth 20000 in
theorem gX6_burst_X6_finds : GoodIn wsX6_burst (wsV RX6 96 RX6 yX6_finds wsX6_finds) := goodIn_app (goodIn_of _ (by decide +kernel)) ggX6_burst_X6_finds
set_option maxRecDepth 20000 in
theorem ggX6_burst_X6_lends : GoodIn wsX6_burst wsX6_lends := goodIn_r _ [23, 24, 25, 26, 27, 4, 28, 97, 98, 99, 100, 101, 102, 103, 104, 105, 106, 107, 108, 109, 110, 111, 112, 113] (by decide +kernel) (by decide +kernel)
set_option maxRecDepth 20000 in
theorem gX6_burst_X6_lends : GoodIn wsX6_burst (wsV RX6 160 RX6 yX6_lends wsX6_lends) := goodIn_app (goodIn_of _ (by decide +kernel)) ggX6_burst_X6_lends
set_option maxRecDepth 20000 in
theorem ggX6_burst_X6_alleyIn : GoodIn wsX6_burst wsX6_alleyIn := goodIn_r _ [32, 24, 33, 34, 35, 4, 36, 37, 38, 39, 40, 41, 42, 43, 44, 45, 46, 47, 48, 49, 50, 51, 52, 53, 54, 55, 56, 57, 58, 59, 60, 61, 62, 63, 64, 65, 66, 67, 68, 69, 70, 71, 72, 73, 74, 75, 76, 77, 78, 79, 80, 81, 82, 83, 84, 85, 86, 87, 88, 89, 90, 91, 92, 93, 94, 95, 96, 25, 26, 27, 28, 97, 98, 99, 100, 101, 102, 103, 104, 105, 106, 107, 108, 109, 110, 111, 112, 113] (by decide +kernel) (by decide +kernel)
set_option maxRecDepth 20000 in
theorem gX6_burst_X6_alleyIn : GoodIn wsX6_burst (wsV RX6 166 RX6 yX6_alleyIn wsX6_alleyIn) := goodIn_app (goodIn_of _ (by decide +kernel)) ggX6_burst_X6_alleyIn
set_option maxRecDepth 20000 in
theorem ggX6_burst_X6_comes : GoodIn wsX6_burst wsX6_comes := goodIn_r _ [54, 43, 44, 45, 46, 47, 48, 49, 55, 56, 57, 4, 58, 24, 59, 60, 61, 62, 50, 63, 64, 65, 66, 97, 98, 99, 100, 101, 102, 103, 104, 105, 106, 107, 108, 109, 110, 111, 112, 113] (by decide +kernel) (by decide +kernel)

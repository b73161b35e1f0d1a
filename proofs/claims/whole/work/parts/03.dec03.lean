theorem dX5_mostOf_43 : decode cX5_mostOf 43 = .ok (.bipush 99, 2) := by decide +kernel
theorem dX5_mostOf_45 : decode cX5_mostOf 45 = .ok (.ireturn, 1) := by decide +kernel
theorem dX5_mostOf_46 : decode cX5_mostOf 46 = .ok (.sipush 999, 3) := by decide +kernel
theorem dX5_mostOf_49 : decode cX5_mostOf 49 = .ok (.ireturn, 1) := by decide +kernel
theorem dX5_mostOf_50 : decode cX5_mostOf 50 = .ok (.iconst 1, 1) := by decide +kernel
theorem dX5_mostOf_51 : decode cX5_mostOf 51 = .ok (.ireturn, 1) := by decide +kernel
theorem dX5_mostOf_52 : decode cX5_mostOf 52 = .ok (.sipush 9999, 3) := by decide +kernel
theorem dX5_mostOf_55 : decode cX5_mostOf 55 = .ok (.ireturn, 1) := by decide +kernel
theorem dX5_lastIn_0 : decode cX5_lastIn 0 = .ok (.bipush 10, 2) := by decide +kernel
theorem dX5_lastIn_2 : decode cX5_lastIn 2 = .ok (.istore_n 1, 1) := by decide +kernel
theorem dX5_lastIn_3 : decode cX5_lastIn 3 = .ok (.iload_n 1, 1) := by decide +kernel
theorem dX5_lastIn_4 : decode cX5_lastIn 4 = .ok (.ifCond .le 17, 3) := by decide +kernel
theorem dX5_lastIn_7 : decode cX5_lastIn 7 = .ok (.iload_n 0, 1) := by decide +kernel
theorem dX5_lastIn_8 : decode cX5_lastIn 8 = .ok (.iload_n 1, 1) := by decide +kernel
theorem dX5_lastIn_9 : decode cX5_lastIn 9 = .ok (.ishr, 1) := by decide +kernel
theorem dX5_lastIn_10 : decode cX5_lastIn 10 = .ok (.iconst 1, 1) := by decide +kernel
theorem dX5_lastIn_11 : decode cX5_lastIn 11 = .ok (.iand, 1) := by decide +kernel
theorem dX5_lastIn_12 : decode cX5_lastIn 12 = .ok (.ifCond .ne 9, 3) := by decide +kernel
theorem dX5_lastIn_15 : decode cX5_lastIn 15 = .ok (.iinc 1 (-1), 3) := by decide +kernel
theorem dX5_lastIn_18 : decode cX5_lastIn 18 = .ok (.goto (-15), 3) := by decide +kernel
theorem dX5_lastIn_21 : decode cX5_lastIn 21 = .ok (.iload_n 1, 1) := by decide +kernel
theorem dX5_lastIn_22 : decode cX5_lastIn 22 = .ok (.ireturn, 1) := by decide +kernel
theorem dX5_isWaterAsBefore_0 : decode cX5_isWaterAsBefore 0 = .ok (.iconst 0, 1) := by decide +kernel
theorem dX5_isWaterAsBefore_1 : decode cX5_isWaterAsBefore 1 = .ok (.istore_n 1, 1) := by decide +kernel
theorem dX5_isWaterAsBefore_2 : decode cX5_isWaterAsBefore 2 = .ok (.iload_n 1, 1) := by decide +kernel
theorem dX5_isWaterAsBefore_3 : decode cX5_isWaterAsBefore 3 = .ok (.bipush 11, 2) := by decide +kernel
theorem dX5_isWaterAsBefore_5 : decode cX5_isWaterAsBefore 5 = .ok (.if_icmp .ge 29, 3) := by decide +kernel
theorem dX5_isWaterAsBefore_8 : decode cX5_isWaterAsBefore 8 = .ok (.aload_n 0, 1) := by decide +kernel
theorem dX5_isWaterAsBefore_9 : decode cX5_isWaterAsBefore 9 = .ok (.getfield 19, 3) := by decide +kernel
theorem dX5_isWaterAsBefore_12 : decode cX5_isWaterAsBefore 12 = .ok (.getfield 103, 3) := by decide +kernel
theorem dX5_isWaterAsBefore_15 : decode cX5_isWaterAsBefore 15 = .ok (.iload_n 1, 1) := by decide +kernel
theorem dX5_isWaterAsBefore_16 : decode cX5_isWaterAsBefore 16 = .ok (.iaload, 1) := by decide +kernel
theorem dX5_isWaterAsBefore_17 : decode cX5_isWaterAsBefore 17 = .ok (.aload_n 0, 1) := by decide +kernel
theorem dX5_isWaterAsBefore_18 : decode cX5_isWaterAsBefore 18 = .ok (.getfield 22, 3) := by decide +kernel
theorem dX5_isWaterAsBefore_21 : decode cX5_isWaterAsBefore 21 = .ok (.iload_n 1, 1) := by decide +kernel
theorem dX5_isWaterAsBefore_22 : decode cX5_isWaterAsBefore 22 = .ok (.iaload, 1) := by decide +kernel
theorem dX5_isWaterAsBefore_23 : decode cX5_isWaterAsBefore 23 = .ok (.if_icmp .eq 5, 3) := by decide +kernel
theorem dX5_isWaterAsBefore_26 : decode cX5_isWaterAsBefore 26 = .ok (.iconst 0, 1) := by decide +kernel
theorem dX5_isWaterAsBefore_27 : decode cX5_isWaterAsBefore 27 = .ok (.ireturn, 1) := by decide +kernel
theorem dX5_isWaterAsBefore_28 : decode cX5_isWaterAsBefore 28 = .ok (.iinc 1 1, 3) := by decide +kernel
theorem dX5_isWaterAsBefore_31 : decode cX5_isWaterAsBefore 31 = .ok (.goto (-29), 3) := by decide +kernel
theorem dX5_isWaterAsBefore_34 : decode cX5_isWaterAsBefore 34 = .ok (.iconst 1, 1) := by decide +kernel
theorem dX5_isWaterAsBefore_35 : decode cX5_isWaterAsBefore 35 = .ok (.ireturn, 1) := by decide +kernel
set_option maxRecDepth 20000 in
theorem ggX5_tryTurned_X1_become : GoodIn wsX5_tryTurned wsX1_become := goodIn_r _ [8, 9, 10, 11, 12, 13, 14, 15, 16, 17, 18, 19, 20, 21, 22, 23, 24, 34, 35, 36, 37, 38, 39, 40, 41, 42, 43, 44, 45] (by decide +kernel) (by decide +kernel)
set_option maxRecDepth 20000 in
theorem gX5_tryTurned_X1_become : GoodIn wsX5_tryTurned (wsV RX5 126 RX1 yX1_become wsX1_become) := goodIn_app (goodIn_of _ (by decide +kernel)) ggX5_tryTurned_X1_become
theorem dX5_tryTurned_0 : decode cX5_tryTurned 0 = .ok (.aload_n 0, 1) := by decide +kernel
theorem dX5_tryTurned_1 : decode cX5_tryTurned 1 = .ok (.getfield 19, 3) := by decide +kernel
theorem dX5_tryTurned_4 : decode cX5_tryTurned 4 = .ok (.aload_n 0, 1) := by decide +kernel
theorem dX5_tryTurned_5 : decode cX5_tryTurned 5 = .ok (.getfield 10, 3) := by decide +kernel
theorem dX5_tryTurned_8 : decode cX5_tryTurned 8 = .ok (.invokevirtual 126, 3) := by decide +kernel
theorem dX5_tryTurned_11 : decode cX5_tryTurned 11 = .ok (.iconst 0, 1) := by decide +kernel
theorem dX5_tryTurned_12 : decode cX5_tryTurned 12 = .ok (.istore_n 2, 1) := by decide +kernel
theorem dX5_tryTurned_13 : decode cX5_tryTurned 13 = .ok (.iload_n 2, 1) := by decide +kernel
theorem dX5_tryTurned_14 : decode cX5_tryTurned 14 = .ok (.bipush 11, 2) := by decide +kernel
theorem dX5_tryTurned_16 : decode cX5_tryTurned 16 = .ok (.if_icmp .ge 26, 3) := by decide +kernel
theorem dX5_tryTurned_19 : decode cX5_tryTurned 19 = .ok (.aload_n 0, 1) := by decide +kernel
theorem dX5_tryTurned_20 : decode cX5_tryTurned 20 = .ok (.getfield 19, 3) := by decide +kernel
theorem dX5_tryTurned_23 : decode cX5_tryTurned 23 = .ok (.getfield 96, 3) := by decide +kernel
theorem dX5_tryTurned_26 : decode cX5_tryTurned 26 = .ok (.iload_n 2, 1) := by decide +kernel
theorem dX5_tryTurned_27 : decode cX5_tryTurned 27 = .ok (.dup2, 1) := by decide +kernel
theorem dX5_tryTurned_28 : decode cX5_tryTurned 28 = .ok (.iaload, 1) := by decide +kernel
theorem dX5_tryTurned_29 : decode cX5_tryTurned 29 = .ok (.iload_n 1, 1) := by decide +kernel
theorem dX5_tryTurned_30 : decode cX5_tryTurned 30 = .ok (.iload_n 2, 1) := by decide +kernel
theorem dX5_tryTurned_31 : decode cX5_tryTurned 31 = .ok (.ishr, 1) := by decide +kernel
theorem dX5_tryTurned_32 : decode cX5_tryTurned 32 = .ok (.iconst 1, 1) := by decide +kernel
theorem dX5_tryTurned_33 : decode cX5_tryTurned 33 = .ok (.iand, 1) := by decide +kernel
theorem dX5_tryTurned_34 : decode cX5_tryTurned 34 = .ok (.ixor, 1) := by decide +kernel
theorem dX5_tryTurned_35 : decode cX5_tryTurned 35 = .ok (.iastore, 1) := by decide +kernel
theorem dX5_tryTurned_36 : decode cX5_tryTurned 36 = .ok (.iinc 2 1, 3) := by decide +kernel
theorem dX5_tryTurned_39 : decode cX5_tryTurned 39 = .ok (.goto (-26), 3) := by decide +kernel
theorem dX5_tryTurned_42 : decode cX5_tryTurned 42 = .ok (.return_, 1) := by decide +kernel
set_option maxRecDepth 20000 in
theorem ggX5_tryWith_X1_become : GoodIn wsX5_tryWith wsX1_become := goodIn_r _ [8, 9, 10, 11, 12, 13, 14, 15, 16, 17, 18, 19, 20, 21, 22, 23, 24, 38, 39, 40, 41, 42, 43, 44, 45, 46, 47, 48, 49] (by decide +kernel) (by decide +kernel)
set_option maxRecDepth 20000 in
theorem gX5_tryWith_X1_become : GoodIn wsX5_tryWith (wsV RX5 126 RX1 yX1_become wsX1_become) := goodIn_app (goodIn_of _ (by decide +kernel)) ggX5_tryWith_X1_become
set_option maxRecDepth 20000 in
theorem ggX5_tryWith_X1_row : GoodIn wsX5_tryWith wsX1_row := goodIn_r _ [28, 9, 14, 15, 16, 17, 18, 38, 39, 40, 41, 42, 43, 44, 45, 46, 47, 48, 49] (by decide +kernel) (by decide +kernel)
set_option maxRecDepth 20000 in
theorem gX5_tryWith_X1_row : GoodIn wsX5_tryWith (wsV RX5 67 RX1 yX1_row wsX1_row) := goodIn_app (goodIn_of _ (by decide +kernel)) ggX5_tryWith_X1_row
theorem dX5_tryWith_0 : decode cX5_tryWith 0 = .ok (.aload_n 0, 1) := by decide +kernel
theorem dX5_tryWith_1 : decode cX5_tryWith 1 = .ok (.getfield 19, 3) := by decide +kernel
theorem dX5_tryWith_4 : decode cX5_tryWith 4 = .ok (.aload_n 0, 1) := by decide +kernel
theorem dX5_tryWith_5 : decode cX5_tryWith 5 = .ok (.getfield 10, 3) := by decide +kernel
theorem dX5_tryWith_8 : decode cX5_tryWith 8 = .ok (.invokevirtual 126, 3) := by decide +kernel
theorem dX5_tryWith_11 : decode cX5_tryWith 11 = .ok (.iload_n 1, 1) := by decide +kernel
theorem dX5_tryWith_12 : decode cX5_tryWith 12 = .ok (.bipush 6, 2) := by decide +kernel
theorem dX5_tryWith_14 : decode cX5_tryWith 14 = .ok (.if_icmp .ne 14, 3) := by decide +kernel
theorem dX5_tryWith_17 : decode cX5_tryWith 17 = .ok (.aload_n 0, 1) := by decide +kernel
theorem dX5_tryWith_18 : decode cX5_tryWith 18 = .ok (.getfield 19, 3) := by decide +kernel
theorem dX5_tryWith_21 : decode cX5_tryWith 21 = .ok (.iload_n 2, 1) := by decide +kernel
theorem dX5_tryWith_22 : decode cX5_tryWith 22 = .ok (.putfield 88, 3) := by decide +kernel
theorem dX5_tryWith_25 : decode cX5_tryWith 25 = .ok (.goto 14, 3) := by decide +kernel
theorem dX5_tryWith_28 : decode cX5_tryWith 28 = .ok (.aload_n 0, 1) := by decide +kernel
theorem dX5_tryWith_29 : decode cX5_tryWith 29 = .ok (.getfield 19, 3) := by decide +kernel
theorem dX5_tryWith_32 : decode cX5_tryWith 32 = .ok (.iload_n 1, 1) := by decide +kernel
theorem dX5_tryWith_33 : decode cX5_tryWith 33 = .ok (.invokevirtual 67, 3) := by decide +kernel
theorem dX5_tryWith_36 : decode cX5_tryWith 36 = .ok (.iload_n 3, 1) := by decide +kernel
theorem dX5_tryWith_37 : decode cX5_tryWith 37 = .ok (.iload_n 2, 1) := by decide +kernel
theorem dX5_tryWith_38 : decode cX5_tryWith 38 = .ok (.iastore, 1) := by decide +kernel
theorem dX5_tryWith_39 : decode cX5_tryWith 39 = .ok (.return_, 1) := by decide +kernel
set_option maxRecDepth 20000 in
theorem ggX5_staysWetTurned_X5_tryTurned : GoodIn wsX5_staysWetTurned wsX5_tryTurned := goodIn_r _ [6, 1, 7, 8, 9, 10, 11, 12, 13, 14, 15, 16, 17, 18, 19, 20, 21, 22, 23, 24, 25, 26, 27, 28, 29, 77, 78, 79, 80, 81, 82, 83, 84, 85, 86, 87, 88, 89, 90, 91, 92, 93, 94, 95, 96, 97] (by decide +kernel) (by decide +kernel)
set_option maxRecDepth 20000 in
theorem gX5_staysWetTurned_X5_tryTurned : GoodIn wsX5_staysWetTurned (wsV RX5 166 RX5 yX5_tryTurned wsX5_tryTurned) := goodIn_app (goodIn_of _ (by decide +kernel)) ggX5_staysWetTurned_X5_tryTurned
set_option maxRecDepth 20000 in
theorem ggX5_staysWetTurned_X1_staysWet : GoodIn wsX5_staysWetTurned wsX1_staysWet := goodIn_r _ [33, 34, 35, 36, 12, 37, 25, 19, 23, 38, 39, 40, 41, 14, 42, 28, 43, 44, 45, 46, 47, 26, 48, 49, 50, 51, 27, 52, 53, 54, 55, 20, 56, 57, 58, 59, 60, 61, 62, 63, 64, 65, 66, 21, 67, 68, 69, 70, 71, 72, 73, 74, 75, 76, 22, 86, 87, 88, 89, 90, 91, 92, 93, 94, 95, 96, 97] (by decide +kernel) (by decide +kernel)
set_option maxRecDepth 20000 in
theorem gX5_staysWetTurned_X1_staysWet : GoodIn wsX5_staysWetTurned (wsV RX5 238 RX1 yX1_staysWet wsX1_staysWet) := goodIn_app (goodIn_of _ (by decide +kernel)) ggX5_staysWetTurned_X1_staysWet
theorem dX5_staysWetTurned_0 : decode cX5_staysWetTurned 0 = .ok (.aload_n 0, 1) := by decide +kernel
theorem dX5_staysWetTurned_1 : decode cX5_staysWetTurned 1 = .ok (.iload_n 1, 1) := by decide +kernel
theorem dX5_staysWetTurned_2 : decode cX5_staysWetTurned 2 = .ok (.invokevirtual 166, 3) := by decide +kernel
theorem dX5_staysWetTurned_5 : decode cX5_staysWetTurned 5 = .ok (.aload_n 0, 1) := by decide +kernel
theorem dX5_staysWetTurned_6 : decode cX5_staysWetTurned 6 = .ok (.getfield 19, 3) := by decide +kernel
theorem dX5_staysWetTurned_9 : decode cX5_staysWetTurned 9 = .ok (.iload_n 2, 1) := by decide +kernel
theorem dX5_staysWetTurned_10 : decode cX5_staysWetTurned 10 = .ok (.iload_n 3, 1) := by decide +kernel
theorem dX5_staysWetTurned_11 : decode cX5_staysWetTurned 11 = .ok (.iload 4, 2) := by decide +kernel
theorem dX5_staysWetTurned_13 : decode cX5_staysWetTurned 13 = .ok (.invokevirtual 238, 3) := by decide +kernel
theorem dX5_staysWetTurned_16 : decode cX5_staysWetTurned 16 = .ok (.ireturn, 1) := by decide +kernel
set_option maxRecDepth 20000 in
theorem ggX5_staysWetWith_X5_tryWith : GoodIn wsX5_staysWetWith wsX5_tryWith := goodIn_r _ [6, 1, 7, 8, 9, 10, 11, 12, 13, 14, 15, 16, 17, 18, 19, 20, 21, 22, 23, 24, 25, 26, 27, 28, 29, 30, 31, 32, 33, 81, 82, 83, 84, 85, 86, 87, 88, 89, 90, 91, 92, 93, 94, 95, 96, 97, 98, 99, 100, 101] (by decide +kernel) (by decide +kernel)
set_option maxRecDepth 20000 in
theorem gX5_staysWetWith_X5_tryWith : GoodIn wsX5_staysWetWith (wsV RX5 151 RX5 yX5_tryWith wsX5_tryWith) := goodIn_app (goodIn_of _ (by decide +kernel)) ggX5_staysWetWith_X5_tryWith
set_option maxRecDepth 20000 in
theorem ggX5_staysWetWith_X1_staysWet : GoodIn wsX5_staysWetWith wsX1_staysWet := goodIn_r _ [37, 38, 39, 40, 12, 41, 25, 19, 23, 42, 43, 44, 45, 14, 46, 28, 47, 48, 49, 50, 51, 26, 52, 53, 54, 55, 27, 56, 57, 58, 59, 20, 60, 61, 62, 63, 64, 65, 66, 67, 68, 69, 70, 21, 71, 72, 73, 74, 75, 76, 77, 78, 79, 80, 22, 90, 91, 92, 93, 94, 95, 96, 97, 98, 99, 100, 101] (by decide +kernel) (by decide +kernel)
set_option maxRecDepth 20000 in
theorem gX5_staysWetWith_X1_staysWet : GoodIn wsX5_staysWetWith (wsV RX5 238 RX1 yX1_staysWet wsX1_staysWet) := goodIn_app (goodIn_of _ (by decide +kernel)) ggX5_staysWetWith_X1_staysWet
theorem dX5_staysWetWith_0 : decode cX5_staysWetWith 0 = .ok (.aload_n 0, 1) := by decide +kernel
theorem dX5_staysWetWith_1 : decode cX5_staysWetWith 1 = .ok (.iload_n 1, 1) := by decide +kernel
theorem dX5_staysWetWith_2 : decode cX5_staysWetWith 2 = .ok (.iload_n 2, 1) := by decide +kernel
theorem dX5_staysWetWith_3 : decode cX5_staysWetWith 3 = .ok (.iload_n 3, 1) := by decide +kernel
theorem dX5_staysWetWith_4 : decode cX5_staysWetWith 4 = .ok (.invokevirtual 151, 3) := by decide +kernel
theorem dX5_staysWetWith_7 : decode cX5_staysWetWith 7 = .ok (.aload_n 0, 1) := by decide +kernel
theorem dX5_staysWetWith_8 : decode cX5_staysWetWith 8 = .ok (.getfield 19, 3) := by decide +kernel
theorem dX5_staysWetWith_11 : decode cX5_staysWetWith 11 = .ok (.iconst 1, 1) := by decide +kernel
theorem dX5_staysWetWith_12 : decode cX5_staysWetWith 12 = .ok (.iload_n 3, 1) := by decide +kernel
theorem dX5_staysWetWith_13 : decode cX5_staysWetWith 13 = .ok (.ishl, 1) := by decide +kernel
theorem dX5_staysWetWith_14 : decode cX5_staysWetWith 14 = .ok (.iload_n 3, 1) := by decide +kernel
theorem dX5_staysWetWith_15 : decode cX5_staysWetWith 15 = .ok (.iload 4, 2) := by decide +kernel
theorem dX5_staysWetWith_17 : decode cX5_staysWetWith 17 = .ok (.invokevirtual 238, 3) := by decide +kernel
theorem dX5_staysWetWith_20 : decode cX5_staysWetWith 20 = .ok (.ireturn, 1) := by decide +kernel
set_option maxRecDepth 20000 in
theorem ggX5_leastFor_X5_staysWetWith : GoodIn wsX5_leastFor wsX5_staysWetWith := goodIn_r _ [5, 6, 7, 8, 9, 4, 10, 11, 12, 13, 14, 15, 16, 17, 18, 19, 20, 21, 22, 23, 24, 25, 26, 27, 28, 29, 30, 31, 32, 33, 34, 35, 36, 37, 38, 39, 40, 41, 42, 43, 44, 45, 46, 47, 48, 49, 50, 51, 52, 53, 54, 55, 56, 57, 58, 59, 60, 61, 62, 63, 64, 65, 66, 67, 68, 69, 70, 71, 72, 73, 74, 75, 76, 77, 78, 79, 80, 81, 82, 83, 84, 91, 92, 93, 94, 95, 96, 97, 98, 99, 100, 101, 102, 103, 104, 105, 106, 107, 108, 109, 110, 111] (by decide +kernel) (by decide +kernel)
set_option maxRecDepth 20000 in
theorem gX5_leastFor_X5_staysWetWith : GoodIn wsX5_leastFor (wsV RX5 147 RX5 yX5_staysWetWith wsX5_staysWetWith) := goodIn_app (goodIn_of _ (by decide +kernel)) ggX5_leastFor_X5_staysWetWith
set_option maxRecDepth 20000 in
theorem ggX5_leastFor_X5_tell : GoodIn wsX5_leastFor wsX5_tell := goodIn_r _ [88, 89, 90, 91, 92, 93, 94, 95, 96, 97, 98, 99] (by decide +kernel) (by decide +kernel)
set_option maxRecDepth 20000 in
theorem gX5_leastFor_X5_tell : GoodIn wsX5_leastFor (wsV RX5 64 RX5 yX5_tell wsX5_tell) := goodIn_app (goodIn_of _ (by decide +kernel)) ggX5_leastFor_X5_tell
theorem dX5_leastFor_0 : decode cX5_leastFor 0 = .ok (.aload_n 0, 1) := by decide +kernel
theorem dX5_leastFor_1 : decode cX5_leastFor 1 = .ok (.iload_n 1, 1) := by decide +kernel
theorem dX5_leastFor_2 : decode cX5_leastFor 2 = .ok (.iload_n 2, 1) := by decide +kernel
theorem dX5_leastFor_3 : decode cX5_leastFor 3 = .ok (.iload_n 3, 1) := by decide +kernel
theorem dX5_leastFor_4 : decode cX5_leastFor 4 = .ok (.iload 4, 2) := by decide +kernel
theorem dX5_leastFor_6 : decode cX5_leastFor 6 = .ok (.invokevirtual 147, 3) := by decide +kernel
theorem dX5_leastFor_9 : decode cX5_leastFor 9 = .ok (.ifCond .ne 9, 3) := by decide +kernel
theorem dX5_leastFor_12 : decode cX5_leastFor 12 = .ok (.aload_n 0, 1) := by decide +kernel
theorem dX5_leastFor_13 : decode cX5_leastFor 13 = .ok (.iconst 3, 1) := by decide +kernel
theorem dX5_leastFor_14 : decode cX5_leastFor 14 = .ok (.invokevirtual 64, 3) := by decide +kernel
theorem dX5_leastFor_17 : decode cX5_leastFor 17 = .ok (.ireturn, 1) := by decide +kernel
theorem dX5_leastFor_18 : decode cX5_leastFor 18 = .ok (.iconst 0, 1) := by decide +kernel
theorem dX5_leastFor_19 : decode cX5_leastFor 19 = .ok (.istore 5, 2) := by decide +kernel
theorem dX5_leastFor_21 : decode cX5_leastFor 21 = .ok (.iload_n 2, 1) := by decide +kernel
theorem dX5_leastFor_22 : decode cX5_leastFor 22 = .ok (.istore 6, 2) := by decide +kernel
theorem dX5_leastFor_24 : decode cX5_leastFor 24 = .ok (.iconst 0, 1) := by decide +kernel
theorem dX5_leastFor_25 : decode cX5_leastFor 25 = .ok (.istore 7, 2) := by decide +kernel
theorem dX5_leastFor_27 : decode cX5_leastFor 27 = .ok (.iload 7, 2) := by decide +kernel
theorem dX5_leastFor_29 : decode cX5_leastFor 29 = .ok (.bipush 10, 2) := by decide +kernel
theorem dX5_leastFor_31 : decode cX5_leastFor 31 = .ok (.if_icmp .ge 51, 3) := by decide +kernel
theorem dX5_leastFor_34 : decode cX5_leastFor 34 = .ok (.iload 5, 2) := by decide +kernel
theorem dX5_leastFor_36 : decode cX5_leastFor 36 = .ok (.iload 6, 2) := by decide +kernel
theorem dX5_leastFor_38 : decode cX5_leastFor 38 = .ok (.if_icmp .ge 44, 3) := by decide +kernel
theorem dX5_leastFor_41 : decode cX5_leastFor 41 = .ok (.iload 5, 2) := by decide +kernel
theorem dX5_leastFor_43 : decode cX5_leastFor 43 = .ok (.iload 6, 2) := by decide +kernel
theorem dX5_leastFor_45 : decode cX5_leastFor 45 = .ok (.iadd, 1) := by decide +kernel
theorem dX5_leastFor_46 : decode cX5_leastFor 46 = .ok (.iconst 2, 1) := by decide +kernel
theorem dX5_leastFor_47 : decode cX5_leastFor 47 = .ok (.idiv, 1) := by decide +kernel
theorem dX5_leastFor_48 : decode cX5_leastFor 48 = .ok (.istore 8, 2) := by decide +kernel
theorem dX5_leastFor_50 : decode cX5_leastFor 50 = .ok (.aload_n 0, 1) := by decide +kernel
theorem dX5_leastFor_51 : decode cX5_leastFor 51 = .ok (.iload_n 1, 1) := by decide +kernel
theorem dX5_leastFor_52 : decode cX5_leastFor 52 = .ok (.iload 8, 2) := by decide +kernel
theorem dX5_leastFor_54 : decode cX5_leastFor 54 = .ok (.iload_n 3, 1) := by decide +kernel
theorem dX5_leastFor_55 : decode cX5_leastFor 55 = .ok (.iload 4, 2) := by decide +kernel
theorem dX5_leastFor_57 : decode cX5_leastFor 57 = .ok (.invokevirtual 147, 3) := by decide +kernel
theorem dX5_leastFor_60 : decode cX5_leastFor 60 = .ok (.ifCond .eq 10, 3) := by decide +kernel
theorem dX5_leastFor_63 : decode cX5_leastFor 63 = .ok (.iload 8, 2) := by decide +kernel
theorem dX5_leastFor_65 : decode cX5_leastFor 65 = .ok (.istore 6, 2) := by decide +kernel
theorem dX5_leastFor_67 : decode cX5_leastFor 67 = .ok (.goto 9, 3) := by decide +kernel
theorem dX5_leastFor_70 : decode cX5_leastFor 70 = .ok (.iload 8, 2) := by decide +kernel
theorem dX5_leastFor_72 : decode cX5_leastFor 72 = .ok (.iconst 1, 1) := by decide +kernel
theorem dX5_leastFor_73 : decode cX5_leastFor 73 = .ok (.iadd, 1) := by decide +kernel
theorem dX5_leastFor_74 : decode cX5_leastFor 74 = .ok (.istore 5, 2) := by decide +kernel
theorem dX5_leastFor_76 : decode cX5_leastFor 76 = .ok (.iinc 7 1, 3) := by decide +kernel
theorem dX5_leastFor_79 : decode cX5_leastFor 79 = .ok (.goto (-52), 3) := by decide +kernel
theorem dX5_leastFor_82 : decode cX5_leastFor 82 = .ok (.iload 5, 2) := by decide +kernel
theorem dX5_leastFor_84 : decode cX5_leastFor 84 = .ok (.ireturn, 1) := by decide +kernel
set_option maxRecDepth 20000 in
theorem ggX5_isTrialAsSeen_X1_passHour : GoodIn wsX5_isTrialAsSeen wsX1_passHour := goodIn_r _ [9, 10, 11, 12, 13, 14, 15, 16, 17, 18, 19, 20, 21, 22, 8, 23, 24, 25, 26, 27, 28, 29, 30, 31, 32, 33, 34, 35, 36, 37, 38, 39, 40, 41, 42, 43, 44, 45, 46, 47, 48, 49, 50, 51, 52, 53, 54, 55, 56, 57, 58, 71, 72, 73, 74, 75, 76, 77, 78, 79, 80, 81, 82] (by decide +kernel) (by decide +kernel)
set_option maxRecDepth 20000 in
theorem gX5_isTrialAsSeen_X1_passHour : GoodIn wsX5_isTrialAsSeen (wsV RX5 130 RX1 yX1_passHour wsX1_passHour) := goodIn_app (goodIn_of _ (by decide +kernel)) ggX5_isTrialAsSeen_X1_passHour
theorem dX5_isTrialAsSeen_0 : decode cX5_isTrialAsSeen 0 = .ok (.iconst 0, 1) := by decide +kernel
theorem dX5_isTrialAsSeen_1 : decode cX5_isTrialAsSeen 1 = .ok (.istore_n 3, 1) := by decide +kernel
theorem dX5_isTrialAsSeen_2 : decode cX5_isTrialAsSeen 2 = .ok (.iload_n 3, 1) := by decide +kernel
theorem dX5_isTrialAsSeen_3 : decode cX5_isTrialAsSeen 3 = .ok (.aload_n 1, 1) := by decide +kernel
theorem dX5_isTrialAsSeen_4 : decode cX5_isTrialAsSeen 4 = .ok (.getfield 208, 3) := by decide +kernel
theorem dX5_isTrialAsSeen_7 : decode cX5_isTrialAsSeen 7 = .ok (.if_icmp .ge 52, 3) := by decide +kernel
theorem dX5_isTrialAsSeen_10 : decode cX5_isTrialAsSeen 10 = .ok (.iload_n 3, 1) := by decide +kernel
theorem dX5_isTrialAsSeen_11 : decode cX5_isTrialAsSeen 11 = .ok (.ifCond .le 12, 3) := by decide +kernel
theorem dX5_isTrialAsSeen_14 : decode cX5_isTrialAsSeen 14 = .ok (.aload_n 0, 1) := by decide +kernel
theorem dX5_isTrialAsSeen_15 : decode cX5_isTrialAsSeen 15 = .ok (.getfield 19, 3) := by decide +kernel
theorem dX5_isTrialAsSeen_18 : decode cX5_isTrialAsSeen 18 = .ok (.iload_n 2, 1) := by decide +kernel
theorem dX5_isTrialAsSeen_19 : decode cX5_isTrialAsSeen 19 = .ok (.invokevirtual 130, 3) := by decide +kernel
theorem dX5_isTrialAsSeen_22 : decode cX5_isTrialAsSeen 22 = .ok (.pop, 1) := by decide +kernel
theorem dX5_isTrialAsSeen_23 : decode cX5_isTrialAsSeen 23 = .ok (.aload_n 1, 1) := by decide +kernel
theorem dX5_isTrialAsSeen_24 : decode cX5_isTrialAsSeen 24 = .ok (.getfield 221, 3) := by decide +kernel
theorem dX5_isTrialAsSeen_27 : decode cX5_isTrialAsSeen 27 = .ok (.iload_n 3, 1) := by decide +kernel
theorem dX5_isTrialAsSeen_28 : decode cX5_isTrialAsSeen 28 = .ok (.iaload, 1) := by decide +kernel
theorem dX5_isTrialAsSeen_29 : decode cX5_isTrialAsSeen 29 = .ok (.iconst (-1), 1) := by decide +kernel
theorem dX5_isTrialAsSeen_30 : decode cX5_isTrialAsSeen 30 = .ok (.if_icmp .eq 23, 3) := by decide +kernel
theorem dX5_isTrialAsSeen_33 : decode cX5_isTrialAsSeen 33 = .ok (.aload_n 1, 1) := by decide +kernel
theorem dX5_isTrialAsSeen_34 : decode cX5_isTrialAsSeen 34 = .ok (.getfield 221, 3) := by decide +kernel
theorem dX5_isTrialAsSeen_37 : decode cX5_isTrialAsSeen 37 = .ok (.iload_n 3, 1) := by decide +kernel
theorem dX5_isTrialAsSeen_38 : decode cX5_isTrialAsSeen 38 = .ok (.iaload, 1) := by decide +kernel
theorem dX5_isTrialAsSeen_39 : decode cX5_isTrialAsSeen 39 = .ok (.aload_n 0, 1) := by decide +kernel
theorem dX5_isTrialAsSeen_40 : decode cX5_isTrialAsSeen 40 = .ok (.getfield 19, 3) := by decide +kernel
theorem dX5_isTrialAsSeen_43 : decode cX5_isTrialAsSeen 43 = .ok (.getfield 103, 3) := by decide +kernel
theorem dX5_isTrialAsSeen_46 : decode cX5_isTrialAsSeen 46 = .ok (.iload_n 2, 1) := by decide +kernel
theorem dX5_isTrialAsSeen_47 : decode cX5_isTrialAsSeen 47 = .ok (.iaload, 1) := by decide +kernel
theorem dX5_isTrialAsSeen_48 : decode cX5_isTrialAsSeen 48 = .ok (.if_icmp .eq 5, 3) := by decide +kernel
theorem dX5_isTrialAsSeen_51 : decode cX5_isTrialAsSeen 51 = .ok (.iconst 0, 1) := by decide +kernel
theorem dX5_isTrialAsSeen_52 : decode cX5_isTrialAsSeen 52 = .ok (.ireturn, 1) := by decide +kernel
theorem dX5_isTrialAsSeen_53 : decode cX5_isTrialAsSeen 53 = .ok (.iinc 3 1, 3) := by decide +kernel
theorem dX5_isTrialAsSeen_56 : decode cX5_isTrialAsSeen 56 = .ok (.goto (-54), 3) := by decide +kernel
theorem dX5_isTrialAsSeen_59 : decode cX5_isTrialAsSeen 59 = .ok (.iconst 1, 1) := by decide +kernel
theorem dX5_isTrialAsSeen_60 : decode cX5_isTrialAsSeen 60 = .ok (.ireturn, 1) := by decide +kernel
set_option maxRecDepth 20000 in
theorem ggX6_init_X6_sets : GoodIn wsX6_init wsX6_sets := goodIn_r _ [20, 5, 21, 22, 23, 24, 25, 26, 27, 28, 29, 30, 31, 32, 33, 34, 35, 36, 37] (by decide +kernel) (by decide +kernel)
set_option maxRecDepth 20000 in
theorem gX6_init_X6_sets : GoodIn wsX6_init (wsV RX6 43 RX6 yX6_sets wsX6_sets) := goodIn_app (goodIn_of _ (by decide +kernel)) ggX6_init_X6_sets
theorem dX6_init_0 : decode cX6_init 0 = .ok (.aload_n 0, 1) := by decide +kernel
theorem dX6_init_1 : decode cX6_init 1 = .ok (.invokespecial 3, 3) := by decide +kernel
theorem dX6_init_4 : decode cX6_init 4 = .ok (.aload_n 0, 1) := by decide +kernel
theorem dX6_init_5 : decode cX6_init 5 = .ok (.bipush 81, 2) := by decide +kernel
theorem dX6_init_7 : decode cX6_init 7 = .ok (.newarray .int, 2) := by decide +kernel
theorem dX6_init_9 : decode cX6_init 9 = .ok (.putfield 9, 3) := by decide +kernel
theorem dX6_init_12 : decode cX6_init 12 = .ok (.aload_n 0, 1) := by decide +kernel
theorem dX6_init_13 : decode cX6_init 13 = .ok (.bipush 81, 2) := by decide +kernel
theorem dX6_init_15 : decode cX6_init 15 = .ok (.newarray .int, 2) := by decide +kernel
theorem dX6_init_17 : decode cX6_init 17 = .ok (.putfield 13, 3) := by decide +kernel
theorem dX6_init_20 : decode cX6_init 20 = .ok (.aload_n 0, 1) := by decide +kernel
theorem dX6_init_21 : decode cX6_init 21 = .ok (.bipush 81, 2) := by decide +kernel
theorem dX6_init_23 : decode cX6_init 23 = .ok (.newarray .int, 2) := by decide +kernel
theorem dX6_init_25 : decode cX6_init 25 = .ok (.putfield 16, 3) := by decide +kernel
theorem dX6_init_28 : decode cX6_init 28 = .ok (.aload_n 0, 1) := by decide +kernel
theorem dX6_init_29 : decode cX6_init 29 = .ok (.bipush 7, 2) := by decide +kernel
theorem dX6_init_31 : decode cX6_init 31 = .ok (.newarray .int, 2) := by decide +kernel
theorem dX6_init_33 : decode cX6_init 33 = .ok (.putfield 19, 3) := by decide +kernel
theorem dX6_init_36 : decode cX6_init 36 = .ok (.aload_n 0, 1) := by decide +kernel
theorem dX6_init_37 : decode cX6_init 37 = .ok (.bipush 11, 2) := by decide +kernel
theorem dX6_init_39 : decode cX6_init 39 = .ok (.newarray .int, 2) := by decide +kernel
theorem dX6_init_41 : decode cX6_init 41 = .ok (.putfield 22, 3) := by decide +kernel
theorem dX6_init_44 : decode cX6_init 44 = .ok (.aload_n 0, 1) := by decide +kernel
theorem dX6_init_45 : decode cX6_init 45 = .ok (.bipush 11, 2) := by decide +kernel
theorem dX6_init_47 : decode cX6_init 47 = .ok (.newarray .int, 2) := by decide +kernel
theorem dX6_init_49 : decode cX6_init 49 = .ok (.putfield 25, 3) := by decide +kernel
theorem dX6_init_52 : decode cX6_init 52 = .ok (.aload_n 0, 1) := by decide +kernel
theorem dX6_init_53 : decode cX6_init 53 = .ok (.bipush 120, 2) := by decide +kernel
theorem dX6_init_55 : decode cX6_init 55 = .ok (.newarray .int, 2) := by decide +kernel
theorem dX6_init_57 : decode cX6_init 57 = .ok (.putfield 28, 3) := by decide +kernel
theorem dX6_init_60 : decode cX6_init 60 = .ok (.aload_n 0, 1) := by decide +kernel
theorem dX6_init_61 : decode cX6_init 61 = .ok (.iconst 4, 1) := by decide +kernel
theorem dX6_init_62 : decode cX6_init 62 = .ok (.newarray .int, 2) := by decide +kernel
theorem dX6_init_64 : decode cX6_init 64 = .ok (.putfield 31, 3) := by decide +kernel
theorem dX6_init_67 : decode cX6_init 67 = .ok (.aload_n 0, 1) := by decide +kernel
theorem dX6_init_68 : decode cX6_init 68 = .ok (.iconst 4, 1) := by decide +kernel
theorem dX6_init_69 : decode cX6_init 69 = .ok (.newarray .int, 2) := by decide +kernel
theorem dX6_init_71 : decode cX6_init 71 = .ok (.putfield 34, 3) := by decide +kernel
theorem dX6_init_74 : decode cX6_init 74 = .ok (.aload_n 0, 1) := by decide +kernel
theorem dX6_init_75 : decode cX6_init 75 = .ok (.sipush 160, 3) := by decide +kernel
theorem dX6_init_78 : decode cX6_init 78 = .ok (.newarray .int, 2) := by decide +kernel
theorem dX6_init_80 : decode cX6_init 80 = .ok (.putfield 37, 3) := by decide +kernel
theorem dX6_init_83 : decode cX6_init 83 = .ok (.aload_n 0, 1) := by decide +kernel
theorem dX6_init_84 : decode cX6_init 84 = .ok (.bipush 40, 2) := by decide +kernel
theorem dX6_init_86 : decode cX6_init 86 = .ok (.newarray .int, 2) := by decide +kernel
theorem dX6_init_88 : decode cX6_init 88 = .ok (.putfield 40, 3) := by decide +kernel
theorem dX6_init_91 : decode cX6_init 91 = .ok (.aload_n 0, 1) := by decide +kernel
theorem dX6_init_92 : decode cX6_init 92 = .ok (.getfield 9, 3) := by decide +kernel
theorem dX6_init_95 : decode cX6_init 95 = .ok (.iconst 1, 1) := by decide +kernel
theorem dX6_init_96 : decode cX6_init 96 = .ok (.iconst 1, 1) := by decide +kernel
theorem dX6_init_97 : decode cX6_init 97 = .ok (.iastore, 1) := by decide +kernel
theorem dX6_init_98 : decode cX6_init 98 = .ok (.aload_n 0, 1) := by decide +kernel
theorem dX6_init_99 : decode cX6_init 99 = .ok (.getfield 9, 3) := by decide +kernel
theorem dX6_init_102 : decode cX6_init 102 = .ok (.iconst 2, 1) := by decide +kernel
theorem dX6_init_103 : decode cX6_init 103 = .ok (.bipush 20, 2) := by decide +kernel
theorem dX6_init_105 : decode cX6_init 105 = .ok (.iastore, 1) := by decide +kernel
theorem dX6_init_106 : decode cX6_init 106 = .ok (.iconst 0, 1) := by decide +kernel
theorem dX6_init_107 : decode cX6_init 107 = .ok (.istore_n 1, 1) := by decide +kernel
theorem dX6_init_108 : decode cX6_init 108 = .ok (.iload_n 1, 1) := by decide +kernel
theorem dX6_init_109 : decode cX6_init 109 = .ok (.bipush 11, 2) := by decide +kernel
theorem dX6_init_111 : decode cX6_init 111 = .ok (.if_icmp .ge 24, 3) := by decide +kernel
theorem dX6_init_114 : decode cX6_init 114 = .ok (.aload_n 0, 1) := by decide +kernel
theorem dX6_init_115 : decode cX6_init 115 = .ok (.iload_n 1, 1) := by decide +kernel
theorem dX6_init_116 : decode cX6_init 116 = .ok (.iconst 2, 1) := by decide +kernel
theorem dX6_init_117 : decode cX6_init 117 = .ok (.iconst 2, 1) := by decide +kernel
theorem dX6_init_118 : decode cX6_init 118 = .ok (.invokevirtual 43, 3) := by decide +kernel
theorem dX6_init_121 : decode cX6_init 121 = .ok (.aload_n 0, 1) := by decide +kernel
theorem dX6_init_122 : decode cX6_init 122 = .ok (.iload_n 1, 1) := by decide +kernel
theorem dX6_init_123 : decode cX6_init 123 = .ok (.iconst 3, 1) := by decide +kernel
theorem dX6_init_124 : decode cX6_init 124 = .ok (.bipush 10, 2) := by decide +kernel
theorem dX6_init_126 : decode cX6_init 126 = .ok (.invokevirtual 43, 3) := by decide +kernel
theorem dX6_init_129 : decode cX6_init 129 = .ok (.iinc 1 1, 3) := by decide +kernel
theorem dX6_init_132 : decode cX6_init 132 = .ok (.goto (-24), 3) := by decide +kernel
theorem dX6_init_135 : decode cX6_init 135 = .ok (.iconst 0, 1) := by decide +kernel
theorem dX6_init_136 : decode cX6_init 136 = .ok (.istore_n 1, 1) := by decide +kernel
theorem dX6_init_137 : decode cX6_init 137 = .ok (.iload_n 1, 1) := by decide +kernel
theorem dX6_init_138 : decode cX6_init 138 = .ok (.bipush 10, 2) := by decide +kernel
theorem dX6_init_140 : decode cX6_init 140 = .ok (.if_icmp .ge 19, 3) := by decide +kernel
theorem dX6_init_143 : decode cX6_init 143 = .ok (.aload_n 0, 1) := by decide +kernel
theorem dX6_init_144 : decode cX6_init 144 = .ok (.getfield 9, 3) := by decide +kernel
theorem dX6_init_147 : decode cX6_init 147 = .ok (.bipush 71, 2) := by decide +kernel
theorem dX6_init_149 : decode cX6_init 149 = .ok (.iload_n 1, 1) := by decide +kernel
theorem dX6_init_150 : decode cX6_init 150 = .ok (.iadd, 1) := by decide +kernel
theorem dX6_init_151 : decode cX6_init 151 = .ok (.iconst (-1), 1) := by decide +kernel
theorem dX6_init_152 : decode cX6_init 152 = .ok (.iastore, 1) := by decide +kernel
theorem dX6_init_153 : decode cX6_init 153 = .ok (.iinc 1 1, 3) := by decide +kernel
theorem dX6_init_156 : decode cX6_init 156 = .ok (.goto (-19), 3) := by decide +kernel
theorem dX6_init_159 : decode cX6_init 159 = .ok (.return_, 1) := by decide +kernel
theorem dX6_finds_0 : decode cX6_finds 0 = .ok (.aload_n 0, 1) := by decide +kernel
theorem dX6_finds_1 : decode cX6_finds 1 = .ok (.getfield 19, 3) := by decide +kernel
theorem dX6_finds_4 : decode cX6_finds 4 = .ok (.iload_n 1, 1) := by decide +kernel
theorem dX6_finds_5 : decode cX6_finds 5 = .ok (.dup2, 1) := by decide +kernel
theorem dX6_finds_6 : decode cX6_finds 6 = .ok (.iaload, 1) := by decide +kernel
theorem dX6_finds_7 : decode cX6_finds 7 = .ok (.iconst 1, 1) := by decide +kernel
theorem dX6_finds_8 : decode cX6_finds 8 = .ok (.iadd, 1) := by decide +kernel
theorem dX6_finds_9 : decode cX6_finds 9 = .ok (.iastore, 1) := by decide +kernel
theorem dX6_finds_10 : decode cX6_finds 10 = .ok (.ldc 47, 2) := by decide +kernel
theorem dX6_finds_12 : decode cX6_finds 12 = .ok (.iload_n 1, 1) := by decide +kernel
theorem dX6_finds_13 : decode cX6_finds 13 = .ok (.isub, 1) := by decide +kernel
theorem dX6_finds_14 : decode cX6_finds 14 = .ok (.ireturn, 1) := by decide +kernel
theorem dX6_in_0 : decode cX6_in 0 = .ok (.lload_n 0, 1) := by decide +kernel
theorem dX6_in_1 : decode cX6_in 1 = .ok (.lload_n 2, 1) := by decide +kernel
theorem dX6_in_2 : decode cX6_in 2 = .ok (.lcmp, 1) := by decide +kernel
theorem dX6_in_3 : decode cX6_in 3 = .ok (.ifCond .lt 14, 3) := by decide +kernel
theorem dX6_in_6 : decode cX6_in 6 = .ok (.lload_n 0, 1) := by decide +kernel
theorem dX6_in_7 : decode cX6_in 7 = .ok (.lload 4, 2) := by decide +kernel
theorem dX6_in_9 : decode cX6_in 9 = .ok (.lcmp, 1) := by decide +kernel
theorem dX6_in_10 : decode cX6_in 10 = .ok (.ifCond .gt 7, 3) := by decide +kernel
theorem dX6_in_13 : decode cX6_in 13 = .ok (.iconst 1, 1) := by decide +kernel
theorem dX6_in_14 : decode cX6_in 14 = .ok (.goto 4, 3) := by decide +kernel
theorem dX6_in_17 : decode cX6_in 17 = .ok (.iconst 0, 1) := by decide +kernel
theorem dX6_in_18 : decode cX6_in 18 = .ok (.ireturn, 1) := by decide +kernel
theorem dX6_become_0 : decode cX6_become 0 = .ok (.iconst 0, 1) := by decide +kernel
theorem dX6_become_1 : decode cX6_become 1 = .ok (.istore_n 2, 1) := by decide +kernel
theorem dX6_become_2 : decode cX6_become 2 = .ok (.iload_n 2, 1) := by decide +kernel
theorem dX6_become_3 : decode cX6_become 3 = .ok (.bipush 81, 2) := by decide +kernel
theorem dX6_become_5 : decode cX6_become 5 = .ok (.if_icmp .ge 15, 3) := by decide +kernel
theorem dX6_become_8 : decode cX6_become 8 = .ok (.aload_n 1, 1) := by decide +kernel
theorem dX6_become_9 : decode cX6_become 9 = .ok (.iload_n 2, 1) := by decide +kernel
theorem dX6_become_10 : decode cX6_become 10 = .ok (.aload_n 0, 1) := by decide +kernel
theorem dX6_become_11 : decode cX6_become 11 = .ok (.iload_n 2, 1) := by decide +kernel
theorem dX6_become_12 : decode cX6_become 12 = .ok (.iaload, 1) := by decide +kernel
theorem dX6_become_13 : decode cX6_become 13 = .ok (.iastore, 1) := by decide +kernel
theorem dX6_become_14 : decode cX6_become 14 = .ok (.iinc 2 1, 3) := by decide +kernel
theorem dX6_become_17 : decode cX6_become 17 = .ok (.goto (-15), 3) := by decide +kernel
theorem dX6_become_20 : decode cX6_become 20 = .ok (.return_, 1) := by decide +kernel
set_option maxRecDepth 20000 in
theorem ggX6_lends_X6_become : GoodIn wsX6_lends wsX6_become := goodIn_r _ [6] (by decide +kernel) (by decide +kernel)
set_option maxRecDepth 20000 in
theorem gX6_lends_X6_become : GoodIn wsX6_lends (va_wsS RX6 48 yX6_become wsX6_become) := goodIn_app (goodIn_of _ (by decide +kernel)) ggX6_lends_X6_become
theorem dX6_lends_0 : decode cX6_lends 0 = .ok (.aload_n 0, 1) := by decide +kernel
theorem dX6_lends_1 : decode cX6_lends 1 = .ok (.getfield 9, 3) := by decide +kernel
theorem dX6_lends_4 : decode cX6_lends 4 = .ok (.aload_n 0, 1) := by decide +kernel
theorem dX6_lends_5 : decode cX6_lends 5 = .ok (.getfield 16, 3) := by decide +kernel
theorem dX6_lends_8 : decode cX6_lends 8 = .ok (.invokestatic 48, 3) := by decide +kernel
theorem dX6_lends_11 : decode cX6_lends 11 = .ok (.return_, 1) := by decide +kernel
set_option maxRecDepth 20000 in
theorem ggX6_laysBack_X6_become : GoodIn wsX6_laysBack wsX6_become := goodIn_r _ [6] (by decide +kernel) (by decide +kernel)
set_option maxRecDepth 20000 in
theorem gX6_laysBack_X6_become : GoodIn wsX6_laysBack (va_wsS RX6 48 yX6_become wsX6_become) := goodIn_app (goodIn_of _ (by decide +kernel)) ggX6_laysBack_X6_become
theorem dX6_laysBack_0 : decode cX6_laysBack 0 = .ok (.aload_n 0, 1) := by decide +kernel
theorem dX6_laysBack_1 : decode cX6_laysBack 1 = .ok (.getfield 16, 3) := by decide +kernel
theorem dX6_laysBack_4 : decode cX6_laysBack 4 = .ok (.aload_n 0, 1) := by decide +kernel
theorem dX6_laysBack_5 : decode cX6_laysBack 5 = .ok (.getfield 9, 3) := by decide +kernel
theorem dX6_laysBack_8 : decode cX6_laysBack 8 = .ok (.invokestatic 48, 3) := by decide +kernel
theorem dX6_laysBack_11 : decode cX6_laysBack 11 = .ok (.return_, 1) := by decide +kernel
set_option maxRecDepth 20000 in
theorem ggX6_isHouse_X6_in : GoodIn wsX6_isHouse wsX6_in := goodIn_r _ [5] (by decide +kernel) (by decide +kernel)
set_option maxRecDepth 20000 in
theorem gX6_isHouse_X6_in : GoodIn wsX6_isHouse (va_wsS RX6 54 yX6_in wsX6_in) := goodIn_app (goodIn_of _ (by decide +kernel)) ggX6_isHouse_X6_in
theorem dX6_isHouse_0 : decode cX6_isHouse 0 = .ok (.iload_n 0, 1) := by decide +kernel
theorem dX6_isHouse_1 : decode cX6_isHouse 1 = .ok (.i2l, 1) := by decide +kernel
theorem dX6_isHouse_2 : decode cX6_isHouse 2 = .ok (.lconst 0, 1) := by decide +kernel
theorem dX6_isHouse_3 : decode cX6_isHouse 3 = .ok (.ldc2_w 52, 3) := by decide +kernel
theorem dX6_isHouse_6 : decode cX6_isHouse 6 = .ok (.invokestatic 54, 3) := by decide +kernel
theorem dX6_isHouse_9 : decode cX6_isHouse 9 = .ok (.ireturn, 1) := by decide +kernel
theorem dX6_its_0 : decode cX6_its 0 = .ok (.aload_n 0, 1) := by decide +kernel
theorem dX6_its_1 : decode cX6_its 1 = .ok (.getfield 9, 3) := by decide +kernel
theorem dX6_its_4 : decode cX6_its 4 = .ok (.iconst 5, 1) := by decide +kernel
theorem dX6_its_5 : decode cX6_its 5 = .ok (.bipush 6, 2) := by decide +kernel
theorem dX6_its_7 : decode cX6_its 7 = .ok (.iload_n 1, 1) := by decide +kernel
theorem dX6_its_8 : decode cX6_its 8 = .ok (.imul, 1) := by decide +kernel
theorem dX6_its_9 : decode cX6_its 9 = .ok (.iadd, 1) := by decide +kernel
theorem dX6_its_10 : decode cX6_its 10 = .ok (.iload_n 2, 1) := by decide +kernel
theorem dX6_its_11 : decode cX6_its 11 = .ok (.iadd, 1) := by decide +kernel
theorem dX6_its_12 : decode cX6_its 12 = .ok (.iaload, 1) := by decide +kernel
theorem dX6_its_13 : decode cX6_its 13 = .ok (.ireturn, 1) := by decide +kernel
theorem dX6_sets_0 : decode cX6_sets 0 = .ok (.aload_n 0, 1) := by decide +kernel
theorem dX6_sets_1 : decode cX6_sets 1 = .ok (.getfield 9, 3) := by decide +kernel
theorem dX6_sets_4 : decode cX6_sets 4 = .ok (.iconst 5, 1) := by decide +kernel
theorem dX6_sets_5 : decode cX6_sets 5 = .ok (.bipush 6, 2) := by decide +kernel
theorem dX6_sets_7 : decode cX6_sets 7 = .ok (.iload_n 1, 1) := by decide +kernel
theorem dX6_sets_8 : decode cX6_sets 8 = .ok (.imul, 1) := by decide +kernel
theorem dX6_sets_9 : decode cX6_sets 9 = .ok (.iadd, 1) := by decide +kernel
theorem dX6_sets_10 : decode cX6_sets 10 = .ok (.iload_n 2, 1) := by decide +kernel
theorem dX6_sets_11 : decode cX6_sets 11 = .ok (.iadd, 1) := by decide +kernel
theorem dX6_sets_12 : decode cX6_sets 12 = .ok (.iload_n 3, 1) := by decide +kernel
theorem dX6_sets_13 : decode cX6_sets 13 = .ok (.iastore, 1) := by decide +kernel
theorem dX6_sets_14 : decode cX6_sets 14 = .ok (.return_, 1) := by decide +kernel
theorem dX6_becomes_0 : decode cX6_becomes 0 = .ok (.aload_n 0, 1) := by decide +kernel
theorem dX6_becomes_1 : decode cX6_becomes 1 = .ok (.getfield 9, 3) := by decide +kernel
theorem dX6_becomes_4 : decode cX6_becomes 4 = .ok (.iload_n 1, 1) := by decide +kernel
theorem dX6_becomes_5 : decode cX6_becomes 5 = .ok (.iaload, 1) := by decide +kernel
theorem dX6_becomes_6 : decode cX6_becomes 6 = .ok (.istore_n 3, 1) := by decide +kernel
theorem dX6_becomes_7 : decode cX6_becomes 7 = .ok (.aload_n 0, 1) := by decide +kernel
theorem dX6_becomes_8 : decode cX6_becomes 8 = .ok (.getfield 9, 3) := by decide +kernel
theorem dX6_becomes_11 : decode cX6_becomes 11 = .ok (.iload_n 1, 1) := by decide +kernel
theorem dX6_becomes_12 : decode cX6_becomes 12 = .ok (.iload_n 2, 1) := by decide +kernel
theorem dX6_becomes_13 : decode cX6_becomes 13 = .ok (.iastore, 1) := by decide +kernel
theorem dX6_becomes_14 : decode cX6_becomes 14 = .ok (.iload_n 3, 1) := by decide +kernel
theorem dX6_becomes_15 : decode cX6_becomes 15 = .ok (.ireturn, 1) := by decide +kernel
theorem dX6_ones_0 : decode cX6_ones 0 = .ok (.iconst 0, 1) := by decide +kernel
theorem dX6_ones_1 : decode cX6_ones 1 = .ok (.istore_n 1, 1) := by decide +kernel
theorem dX6_ones_2 : decode cX6_ones 2 = .ok (.iconst 0, 1) := by decide +kernel
theorem dX6_ones_3 : decode cX6_ones 3 = .ok (.istore_n 2, 1) := by decide +kernel
theorem dX6_ones_4 : decode cX6_ones 4 = .ok (.iload_n 2, 1) := by decide +kernel
theorem dX6_ones_5 : decode cX6_ones 5 = .ok (.bipush 11, 2) := by decide +kernel
theorem dX6_ones_7 : decode cX6_ones 7 = .ok (.if_icmp .ge 17, 3) := by decide +kernel
theorem dX6_ones_10 : decode cX6_ones 10 = .ok (.iload_n 1, 1) := by decide +kernel
theorem dX6_ones_11 : decode cX6_ones 11 = .ok (.iload_n 0, 1) := by decide +kernel
theorem dX6_ones_12 : decode cX6_ones 12 = .ok (.iload_n 2, 1) := by decide +kernel
theorem dX6_ones_13 : decode cX6_ones 13 = .ok (.ishr, 1) := by decide +kernel
theorem dX6_ones_14 : decode cX6_ones 14 = .ok (.iconst 1, 1) := by decide +kernel
theorem dX6_ones_15 : decode cX6_ones 15 = .ok (.iand, 1) := by decide +kernel
theorem dX6_ones_16 : decode cX6_ones 16 = .ok (.iadd, 1) := by decide +kernel
theorem dX6_ones_17 : decode cX6_ones 17 = .ok (.istore_n 1, 1) := by decide +kernel
theorem dX6_ones_18 : decode cX6_ones 18 = .ok (.iinc 2 1, 3) := by decide +kernel
theorem dX6_ones_21 : decode cX6_ones 21 = .ok (.goto (-17), 3) := by decide +kernel
theorem dX6_ones_24 : decode cX6_ones 24 = .ok (.iload_n 1, 1) := by decide +kernel
theorem dX6_ones_25 : decode cX6_ones 25 = .ok (.ireturn, 1) := by decide +kernel
theorem dX6_aboveOf_0 : decode cX6_aboveOf 0 = .ok (.iload_n 0, 1) := by decide +kernel
theorem dX6_aboveOf_1 : decode cX6_aboveOf 1 = .ok (.iconst 3, 1) := by decide +kernel
theorem dX6_aboveOf_2 : decode cX6_aboveOf 2 = .ok (.if_icmp .ne 7, 3) := by decide +kernel
theorem dX6_aboveOf_5 : decode cX6_aboveOf 5 = .ok (.iconst 2, 1) := by decide +kernel
theorem dX6_aboveOf_6 : decode cX6_aboveOf 6 = .ok (.goto 23, 3) := by decide +kernel
theorem dX6_aboveOf_9 : decode cX6_aboveOf 9 = .ok (.iload_n 0, 1) := by decide +kernel
theorem dX6_aboveOf_10 : decode cX6_aboveOf 10 = .ok (.iconst 4, 1) := by decide +kernel
theorem dX6_aboveOf_11 : decode cX6_aboveOf 11 = .ok (.if_icmp .ne 7, 3) := by decide +kernel
theorem dX6_aboveOf_14 : decode cX6_aboveOf 14 = .ok (.iconst 3, 1) := by decide +kernel
theorem dX6_aboveOf_15 : decode cX6_aboveOf 15 = .ok (.goto 14, 3) := by decide +kernel
theorem dX6_aboveOf_18 : decode cX6_aboveOf 18 = .ok (.iload_n 0, 1) := by decide +kernel
theorem dX6_aboveOf_19 : decode cX6_aboveOf 19 = .ok (.bipush 6, 2) := by decide +kernel
theorem dX6_aboveOf_21 : decode cX6_aboveOf 21 = .ok (.if_icmp .ne 7, 3) := by decide +kernel
theorem dX6_aboveOf_24 : decode cX6_aboveOf 24 = .ok (.iconst 1, 1) := by decide +kernel
theorem dX6_aboveOf_25 : decode cX6_aboveOf 25 = .ok (.goto 4, 3) := by decide +kernel
theorem dX6_aboveOf_28 : decode cX6_aboveOf 28 = .ok (.iconst 0, 1) := by decide +kernel
theorem dX6_aboveOf_29 : decode cX6_aboveOf 29 = .ok (.ireturn, 1) := by decide +kernel
set_option maxRecDepth 20000 in
theorem ggX6_isUnder_X6_aboveOf : GoodIn wsX6_isUnder wsX6_aboveOf := goodIn_r _ [4] (by decide +kernel) (by decide +kernel)
set_option maxRecDepth 20000 in
theorem gX6_isUnder_X6_aboveOf : GoodIn wsX6_isUnder (va_wsS RX6 58 yX6_aboveOf wsX6_aboveOf) := goodIn_app (goodIn_of _ (by decide +kernel)) ggX6_isUnder_X6_aboveOf
theorem dX6_isUnder_0 : decode cX6_isUnder 0 = .ok (.iload_n 0, 1) := by decide +kernel
theorem dX6_isUnder_1 : decode cX6_isUnder 1 = .ok (.istore_n 2, 1) := by decide +kernel
theorem dX6_isUnder_2 : decode cX6_isUnder 2 = .ok (.iload_n 2, 1) := by decide +kernel
theorem dX6_isUnder_3 : decode cX6_isUnder 3 = .ok (.ifCond .eq 16, 3) := by decide +kernel
theorem dX6_isUnder_6 : decode cX6_isUnder 6 = .ok (.iload_n 2, 1) := by decide +kernel
theorem dX6_isUnder_7 : decode cX6_isUnder 7 = .ok (.iload_n 1, 1) := by decide +kernel
theorem dX6_isUnder_8 : decode cX6_isUnder 8 = .ok (.if_icmp .eq 11, 3) := by decide +kernel
theorem dX6_isUnder_11 : decode cX6_isUnder 11 = .ok (.iload_n 2, 1) := by decide +kernel
theorem dX6_isUnder_12 : decode cX6_isUnder 12 = .ok (.invokestatic 58, 3) := by decide +kernel
theorem dX6_isUnder_15 : decode cX6_isUnder 15 = .ok (.istore_n 2, 1) := by decide +kernel
theorem dX6_isUnder_16 : decode cX6_isUnder 16 = .ok (.goto (-14), 3) := by decide +kernel
theorem dX6_isUnder_19 : decode cX6_isUnder 19 = .ok (.iload_n 2, 1) := by decide +kernel
theorem dX6_isUnder_20 : decode cX6_isUnder 20 = .ok (.iload_n 1, 1) := by decide +kernel
theorem dX6_isUnder_21 : decode cX6_isUnder 21 = .ok (.if_icmp .ne 7, 3) := by decide +kernel
theorem dX6_isUnder_24 : decode cX6_isUnder 24 = .ok (.iconst 1, 1) := by decide +kernel
theorem dX6_isUnder_25 : decode cX6_isUnder 25 = .ok (.goto 4, 3) := by decide +kernel
theorem dX6_isUnder_28 : decode cX6_isUnder 28 = .ok (.iconst 0, 1) := by decide +kernel
theorem dX6_isUnder_29 : decode cX6_isUnder 29 = .ok (.ireturn, 1) := by decide +kernel
set_option maxRecDepth 20000 in
theorem ggX6_isKind_X6_in : GoodIn wsX6_isKind wsX6_in := goodIn_r _ [5] (by decide +kernel) (by decide +kernel)
set_option maxRecDepth 20000 in
theorem gX6_isKind_X6_in : GoodIn wsX6_isKind (va_wsS RX6 54 yX6_in wsX6_in) := goodIn_app (goodIn_of _ (by decide +kernel)) ggX6_isKind_X6_in
theorem dX6_isKind_0 : decode cX6_isKind 0 = .ok (.iload_n 0, 1) := by decide +kernel
theorem dX6_isKind_1 : decode cX6_isKind 1 = .ok (.i2l, 1) := by decide +kernel
theorem dX6_isKind_2 : decode cX6_isKind 2 = .ok (.lconst 0, 1) := by decide +kernel
theorem dX6_isKind_3 : decode cX6_isKind 3 = .ok (.ldc2_w 62, 3) := by decide +kernel
theorem dX6_isKind_6 : decode cX6_isKind 6 = .ok (.invokestatic 54, 3) := by decide +kernel
theorem dX6_isKind_9 : decode cX6_isKind 9 = .ok (.ireturn, 1) := by decide +kernel
set_option maxRecDepth 20000 in
theorem ggX6_uses_X6_its : GoodIn wsX6_uses wsX6_its := goodIn_r _ [10, 5, 11, 12, 13, 14, 15, 16, 17, 18, 19, 20, 21, 22, 23, 24, 25, 26, 27] (by decide +kernel) (by decide +kernel)
set_option maxRecDepth 20000 in
theorem gX6_uses_X6_its : GoodIn wsX6_uses (wsV RX6 64 RX6 yX6_its wsX6_its) := goodIn_app (goodIn_of _ (by decide +kernel)) ggX6_uses_X6_its
theorem dX6_uses_0 : decode cX6_uses 0 = .ok (.aload_n 0, 1) := by decide +kernel
theorem dX6_uses_1 : decode cX6_uses 1 = .ok (.iload_n 1, 1) := by decide +kernel
theorem dX6_uses_2 : decode cX6_uses 2 = .ok (.iconst 2, 1) := by decide +kernel
theorem dX6_uses_3 : decode cX6_uses 3 = .ok (.invokevirtual 64, 3) := by decide +kernel
theorem dX6_uses_6 : decode cX6_uses 6 = .ok (.istore_n 2, 1) := by decide +kernel
theorem dX6_uses_7 : decode cX6_uses 7 = .ok (.iconst 0, 1) := by decide +kernel
theorem dX6_uses_8 : decode cX6_uses 8 = .ok (.iconst 2, 1) := by decide +kernel
theorem dX6_uses_9 : decode cX6_uses 9 = .ok (.iload_n 2, 1) := by decide +kernel
theorem dX6_uses_10 : decode cX6_uses 10 = .ok (.imul, 1) := by decide +kernel
theorem dX6_uses_11 : decode cX6_uses 11 = .ok (.iconst 3, 1) := by decide +kernel
theorem dX6_uses_12 : decode cX6_uses 12 = .ok (.isub, 1) := by decide +kernel
theorem dX6_uses_13 : decode cX6_uses 13 = .ok (.invokestatic 68, 3) := by decide +kernel
theorem dX6_uses_16 : decode cX6_uses 16 = .ok (.istore_n 3, 1) := by decide +kernel
theorem dX6_uses_17 : decode cX6_uses 17 = .ok (.aload_n 0, 1) := by decide +kernel
theorem dX6_uses_18 : decode cX6_uses 18 = .ok (.getfield 9, 3) := by decide +kernel
theorem dX6_uses_21 : decode cX6_uses 21 = .ok (.iconst 0, 1) := by decide +kernel
theorem dX6_uses_22 : decode cX6_uses 22 = .ok (.iaload, 1) := by decide +kernel
theorem dX6_uses_23 : decode cX6_uses 23 = .ok (.iconst 2, 1) := by decide +kernel
theorem dX6_uses_24 : decode cX6_uses 24 = .ok (.irem, 1) := by decide +kernel
theorem dX6_uses_25 : decode cX6_uses 25 = .ok (.ifCond .ne 7, 3) := by decide +kernel
theorem dX6_uses_28 : decode cX6_uses 28 = .ok (.iload_n 2, 1) := by decide +kernel
theorem dX6_uses_29 : decode cX6_uses 29 = .ok (.goto 4, 3) := by decide +kernel
theorem dX6_uses_32 : decode cX6_uses 32 = .ok (.iconst 0, 1) := by decide +kernel
theorem dX6_uses_33 : decode cX6_uses 33 = .ok (.istore 4, 2) := by decide +kernel
theorem dX6_uses_35 : decode cX6_uses 35 = .ok (.aload_n 0, 1) := by decide +kernel
theorem dX6_uses_36 : decode cX6_uses 36 = .ok (.iload_n 1, 1) := by decide +kernel
theorem dX6_uses_37 : decode cX6_uses 37 = .ok (.iconst 0, 1) := by decide +kernel
theorem dX6_uses_38 : decode cX6_uses 38 = .ok (.invokevirtual 64, 3) := by decide +kernel
theorem dX6_uses_41 : decode cX6_uses 41 = .ok (.tableswitch 72 1 6 #[39, 47, 51, 53, 72, 42], 39) := by decide +kernel
theorem dX6_uses_80 : decode cX6_uses 80 = .ok (.iload 4, 2) := by decide +kernel
theorem dX6_uses_82 : decode cX6_uses 82 = .ok (.ireturn, 1) := by decide +kernel
theorem dX6_uses_83 : decode cX6_uses 83 = .ok (.iload 4, 2) := by decide +kernel
theorem dX6_uses_85 : decode cX6_uses 85 = .ok (.iconst 1, 1) := by decide +kernel
theorem dX6_uses_86 : decode cX6_uses 86 = .ok (.iadd, 1) := by decide +kernel
theorem dX6_uses_87 : decode cX6_uses 87 = .ok (.ireturn, 1) := by decide +kernel
theorem dX6_uses_88 : decode cX6_uses 88 = .ok (.iconst 2, 1) := by decide +kernel
theorem dX6_uses_89 : decode cX6_uses 89 = .ok (.iload_n 2, 1) := by decide +kernel
theorem dX6_uses_90 : decode cX6_uses 90 = .ok (.imul, 1) := by decide +kernel
theorem dX6_uses_91 : decode cX6_uses 91 = .ok (.ireturn, 1) := by decide +kernel
theorem dX6_uses_92 : decode cX6_uses 92 = .ok (.iload_n 3, 1) := by decide +kernel
theorem dX6_uses_93 : decode cX6_uses 93 = .ok (.ireturn, 1) := by decide +kernel
theorem dX6_uses_94 : decode cX6_uses 94 = .ok (.aload_n 0, 1) := by decide +kernel
theorem dX6_uses_95 : decode cX6_uses 95 = .ok (.getfield 9, 3) := by decide +kernel
theorem dX6_uses_98 : decode cX6_uses 98 = .ok (.iconst 0, 1) := by decide +kernel
theorem dX6_uses_99 : decode cX6_uses 99 = .ok (.iaload, 1) := by decide +kernel
theorem dX6_uses_100 : decode cX6_uses 100 = .ok (.bipush 6, 2) := by decide +kernel
theorem dX6_uses_102 : decode cX6_uses 102 = .ok (.irem, 1) := by decide +kernel
theorem dX6_uses_103 : decode cX6_uses 103 = .ok (.iconst 5, 1) := by decide +kernel
theorem dX6_uses_104 : decode cX6_uses 104 = .ok (.if_icmp .ne 7, 3) := by decide +kernel
theorem dX6_uses_107 : decode cX6_uses 107 = .ok (.iload_n 3, 1) := by decide +kernel
theorem dX6_uses_108 : decode cX6_uses 108 = .ok (.goto 4, 3) := by decide +kernel
theorem dX6_uses_111 : decode cX6_uses 111 = .ok (.iconst 0, 1) := by decide +kernel
theorem dX6_uses_112 : decode cX6_uses 112 = .ok (.ireturn, 1) := by decide +kernel
theorem dX6_uses_113 : decode cX6_uses 113 = .ok (.iload_n 2, 1) := by decide +kernel
theorem dX6_uses_114 : decode cX6_uses 114 = .ok (.ireturn, 1) := by decide +kernel
set_option maxRecDepth 20000 in
theorem ggX6_keeps_X6_its : GoodIn wsX6_keeps wsX6_its := goodIn_r _ [5, 6, 7, 8, 9, 10, 11, 12, 13, 14, 15, 16, 17, 18, 19, 20, 21, 22, 23] (by decide +kernel) (by decide +kernel)
set_option maxRecDepth 20000 in
theorem gX6_keeps_X6_its : GoodIn wsX6_keeps (wsV RX6 64 RX6 yX6_its wsX6_its) := goodIn_app (goodIn_of _ (by decide +kernel)) ggX6_keeps_X6_its
theorem dX6_keeps_0 : decode cX6_keeps 0 = .ok (.aload_n 0, 1) := by decide +kernel
theorem dX6_keeps_1 : decode cX6_keeps 1 = .ok (.iload_n 1, 1) := by decide +kernel
theorem dX6_keeps_2 : decode cX6_keeps 2 = .ok (.iconst 3, 1) := by decide +kernel
theorem dX6_keeps_3 : decode cX6_keeps 3 = .ok (.invokevirtual 64, 3) := by decide +kernel
theorem dX6_keeps_6 : decode cX6_keeps 6 = .ok (.istore_n 2, 1) := by decide +kernel
theorem dX6_keeps_7 : decode cX6_keeps 7 = .ok (.aload_n 0, 1) := by decide +kernel
theorem dX6_keeps_8 : decode cX6_keeps 8 = .ok (.iload_n 1, 1) := by decide +kernel
theorem dX6_keeps_9 : decode cX6_keeps 9 = .ok (.iconst 0, 1) := by decide +kernel
theorem dX6_keeps_10 : decode cX6_keeps 10 = .ok (.invokevirtual 64, 3) := by decide +kernel
theorem dX6_keeps_13 : decode cX6_keeps 13 = .ok (.tableswitch 55 2 6 #[40, 44, 44, 55, 35], 35) := by decide +kernel
theorem dX6_keeps_48 : decode cX6_keeps 48 = .ok (.iload_n 2, 1) := by decide +kernel
theorem dX6_keeps_49 : decode cX6_keeps 49 = .ok (.bipush 10, 2) := by decide +kernel
theorem dX6_keeps_51 : decode cX6_keeps 51 = .ok (.iadd, 1) := by decide +kernel
theorem dX6_keeps_52 : decode cX6_keeps 52 = .ok (.ireturn, 1) := by decide +kernel
theorem dX6_keeps_53 : decode cX6_keeps 53 = .ok (.iload_n 2, 1) := by decide +kernel
theorem dX6_keeps_54 : decode cX6_keeps 54 = .ok (.iconst 2, 1) := by decide +kernel
theorem dX6_keeps_55 : decode cX6_keeps 55 = .ok (.idiv, 1) := by decide +kernel
theorem dX6_keeps_56 : decode cX6_keeps 56 = .ok (.ireturn, 1) := by decide +kernel
theorem dX6_keeps_57 : decode cX6_keeps 57 = .ok (.iload_n 2, 1) := by decide +kernel
theorem dX6_keeps_58 : decode cX6_keeps 58 = .ok (.iconst 2, 1) := by decide +kernel
theorem dX6_keeps_59 : decode cX6_keeps 59 = .ok (.idiv, 1) := by decide +kernel
theorem dX6_keeps_60 : decode cX6_keeps 60 = .ok (.aload_n 0, 1) := by decide +kernel
theorem dX6_keeps_61 : decode cX6_keeps 61 = .ok (.iload_n 1, 1) := by decide +kernel
theorem dX6_keeps_62 : decode cX6_keeps 62 = .ok (.iconst 2, 1) := by decide +kernel
theorem dX6_keeps_63 : decode cX6_keeps 63 = .ok (.invokevirtual 64, 3) := by decide +kernel
theorem dX6_keeps_66 : decode cX6_keeps 66 = .ok (.iadd, 1) := by decide +kernel
theorem dX6_keeps_67 : decode cX6_keeps 67 = .ok (.ireturn, 1) := by decide +kernel
theorem dX6_keeps_68 : decode cX6_keeps 68 = .ok (.iload_n 2, 1) := by decide +kernel
theorem dX6_keeps_69 : decode cX6_keeps 69 = .ok (.ireturn, 1) := by decide +kernel
set_option maxRecDepth 20000 in
theorem ggX6_loses_X6_its : GoodIn wsX6_loses wsX6_its := goodIn_r _ [5, 6, 13, 14, 15, 16, 17, 18, 19, 20, 21, 22, 23, 24, 25, 26, 27, 28, 29] (by decide +kernel) (by decide +kernel)
set_option maxRecDepth 20000 in
theorem gX6_loses_X6_its : GoodIn wsX6_loses (wsV RX6 64 RX6 yX6_its wsX6_its) := goodIn_app (goodIn_of _ (by decide +kernel)) ggX6_loses_X6_its
set_option maxRecDepth 20000 in
theorem ggX6_loses_X6_isUnder : GoodIn wsX6_loses wsX6_isUnder := goodIn_r _ [9, 10, 11, 4, 12] (by decide +kernel) (by decide +kernel)
set_option maxRecDepth 20000 in
theorem gX6_loses_X6_isUnder : GoodIn wsX6_loses (va_wsS RX6 73 yX6_isUnder wsX6_isUnder) := goodIn_app (goodIn_of _ (by decide +kernel)) ggX6_loses_X6_isUnder
theorem dX6_loses_0 : decode cX6_loses 0 = .ok (.aload_n 0, 1) := by decide +kernel
theorem dX6_loses_1 : decode cX6_loses 1 = .ok (.iload_n 1, 1) := by decide +kernel
theorem dX6_loses_2 : decode cX6_loses 2 = .ok (.iconst 0, 1) := by decide +kernel
theorem dX6_loses_3 : decode cX6_loses 3 = .ok (.invokevirtual 64, 3) := by decide +kernel
theorem dX6_loses_6 : decode cX6_loses 6 = .ok (.istore_n 2, 1) := by decide +kernel
theorem dX6_loses_7 : decode cX6_loses 7 = .ok (.iload_n 2, 1) := by decide +kernel
theorem dX6_loses_8 : decode cX6_loses 8 = .ok (.iconst 5, 1) := by decide +kernel
theorem dX6_loses_9 : decode cX6_loses 9 = .ok (.if_icmp .ne 7, 3) := by decide +kernel
theorem dX6_loses_12 : decode cX6_loses 12 = .ok (.iconst 5, 1) := by decide +kernel
theorem dX6_loses_13 : decode cX6_loses 13 = .ok (.goto 16, 3) := by decide +kernel
theorem dX6_loses_16 : decode cX6_loses 16 = .ok (.iload_n 2, 1) := by decide +kernel
theorem dX6_loses_17 : decode cX6_loses 17 = .ok (.iconst 2, 1) := by decide +kernel
theorem dX6_loses_18 : decode cX6_loses 18 = .ok (.invokestatic 73, 3) := by decide +kernel
theorem dX6_loses_21 : decode cX6_loses 21 = .ok (.ifCond .eq 7, 3) := by decide +kernel
theorem dX6_loses_24 : decode cX6_loses 24 = .ok (.iconst 1, 1) := by decide +kernel
theorem dX6_loses_25 : decode cX6_loses 25 = .ok (.goto 4, 3) := by decide +kernel
theorem dX6_loses_28 : decode cX6_loses 28 = .ok (.iconst 0, 1) := by decide +kernel
theorem dX6_loses_29 : decode cX6_loses 29 = .ok (.ireturn, 1) := by decide +kernel
set_option maxRecDepth 20000 in
theorem ggX6_leads_X6_its : GoodIn wsX6_leads wsX6_its := goodIn_r _ [5, 6, 7, 8, 9, 10, 11, 12, 13, 14, 15, 16, 17, 18, 19, 20, 21, 22, 23] (by decide +kernel) (by decide +kernel)
set_option maxRecDepth 20000 in
theorem gX6_leads_X6_its : GoodIn wsX6_leads (wsV RX6 64 RX6 yX6_its wsX6_its) := goodIn_app (goodIn_of _ (by decide +kernel)) ggX6_leads_X6_its
theorem dX6_leads_0 : decode cX6_leads 0 = .ok (.iload_n 1, 1) := by decide +kernel
theorem dX6_leads_1 : decode cX6_leads 1 = .ok (.iconst 1, 1) := by decide +kernel
theorem dX6_leads_2 : decode cX6_leads 2 = .ok (.iadd, 1) := by decide +kernel
theorem dX6_leads_3 : decode cX6_leads 3 = .ok (.aload_n 0, 1) := by decide +kernel
theorem dX6_leads_4 : decode cX6_leads 4 = .ok (.iload_n 1, 1) := by decide +kernel
theorem dX6_leads_5 : decode cX6_leads 5 = .ok (.iconst 4, 1) := by decide +kernel
theorem dX6_leads_6 : decode cX6_leads 6 = .ok (.invokevirtual 64, 3) := by decide +kernel
theorem dX6_leads_9 : decode cX6_leads 9 = .ok (.iadd, 1) := by decide +kernel
theorem dX6_leads_10 : decode cX6_leads 10 = .ok (.istore_n 2, 1) := by decide +kernel
theorem dX6_leads_11 : decode cX6_leads 11 = .ok (.iload_n 2, 1) := by decide +kernel
theorem dX6_leads_12 : decode cX6_leads 12 = .ok (.bipush 11, 2) := by decide +kernel
theorem dX6_leads_14 : decode cX6_leads 14 = .ok (.if_icmp .ge 7, 3) := by decide +kernel
theorem dX6_leads_17 : decode cX6_leads 17 = .ok (.iload_n 2, 1) := by decide +kernel
theorem dX6_leads_18 : decode cX6_leads 18 = .ok (.goto 4, 3) := by decide +kernel
theorem dX6_leads_21 : decode cX6_leads 21 = .ok (.iconst (-1), 1) := by decide +kernel
theorem dX6_leads_22 : decode cX6_leads 22 = .ok (.ireturn, 1) := by decide +kernel
set_option maxRecDepth 20000 in
theorem ggX6_mayBe_X6_isKind : GoodIn wsX6_mayBe wsX6_isKind := goodIn_r _ [7, 8, 9, 10, 6, 11] (by decide +kernel) (by decide +kernel)
set_option maxRecDepth 20000 in
theorem gX6_mayBe_X6_isKind : GoodIn wsX6_mayBe (va_wsS RX6 77 yX6_isKind wsX6_isKind) := goodIn_app (goodIn_of _ (by decide +kernel)) ggX6_mayBe_X6_isKind
set_option maxRecDepth 20000 in
theorem ggX6_mayBe_X6_in : GoodIn wsX6_mayBe wsX6_in := goodIn_r _ [11] (by decide +kernel) (by decide +kernel)
set_option maxRecDepth 20000 in
theorem gX6_mayBe_X6_in : GoodIn wsX6_mayBe (va_wsS RX6 54 yX6_in wsX6_in) := goodIn_app (goodIn_of _ (by decide +kernel)) ggX6_mayBe_X6_in
theorem dX6_mayBe_0 : decode cX6_mayBe 0 = .ok (.iload_n 0, 1) := by decide +kernel
theorem dX6_mayBe_1 : decode cX6_mayBe 1 = .ok (.tableswitch 74 0 5 #[39, 44, 54, 64, 74, 44], 39) := by decide +kernel
theorem dX6_mayBe_40 : decode cX6_mayBe 40 = .ok (.iload_n 1, 1) := by decide +kernel
theorem dX6_mayBe_41 : decode cX6_mayBe 41 = .ok (.invokestatic 77, 3) := by decide +kernel
theorem dX6_mayBe_44 : decode cX6_mayBe 44 = .ok (.ireturn, 1) := by decide +kernel
theorem dX6_mayBe_45 : decode cX6_mayBe 45 = .ok (.iload_n 1, 1) := by decide +kernel
theorem dX6_mayBe_46 : decode cX6_mayBe 46 = .ok (.i2l, 1) := by decide +kernel
theorem dX6_mayBe_47 : decode cX6_mayBe 47 = .ok (.lconst 0, 1) := by decide +kernel
theorem dX6_mayBe_48 : decode cX6_mayBe 48 = .ok (.ldc2_w 81, 3) := by decide +kernel
theorem dX6_mayBe_51 : decode cX6_mayBe 51 = .ok (.invokestatic 54, 3) := by decide +kernel
theorem dX6_mayBe_54 : decode cX6_mayBe 54 = .ok (.ireturn, 1) := by decide +kernel
theorem dX6_mayBe_55 : decode cX6_mayBe 55 = .ok (.iload_n 1, 1) := by decide +kernel
theorem dX6_mayBe_56 : decode cX6_mayBe 56 = .ok (.i2l, 1) := by decide +kernel
theorem dX6_mayBe_57 : decode cX6_mayBe 57 = .ok (.lconst 0, 1) := by decide +kernel
theorem dX6_mayBe_58 : decode cX6_mayBe 58 = .ok (.ldc2_w 83, 3) := by decide +kernel
theorem dX6_mayBe_61 : decode cX6_mayBe 61 = .ok (.invokestatic 54, 3) := by decide +kernel
theorem dX6_mayBe_64 : decode cX6_mayBe 64 = .ok (.ireturn, 1) := by decide +kernel
theorem dX6_mayBe_65 : decode cX6_mayBe 65 = .ok (.iload_n 1, 1) := by decide +kernel
theorem dX6_mayBe_66 : decode cX6_mayBe 66 = .ok (.i2l, 1) := by decide +kernel
theorem dX6_mayBe_67 : decode cX6_mayBe 67 = .ok (.lconst 0, 1) := by decide +kernel
theorem dX6_mayBe_68 : decode cX6_mayBe 68 = .ok (.ldc2_w 85, 3) := by decide +kernel
theorem dX6_mayBe_71 : decode cX6_mayBe 71 = .ok (.invokestatic 54, 3) := by decide +kernel
theorem dX6_mayBe_74 : decode cX6_mayBe 74 = .ok (.ireturn, 1) := by decide +kernel
theorem dX6_mayBe_75 : decode cX6_mayBe 75 = .ok (.iload_n 0, 1) := by decide +kernel
theorem dX6_mayBe_76 : decode cX6_mayBe 76 = .ok (.iconst 4, 1) := by decide +kernel
theorem dX6_mayBe_77 : decode cX6_mayBe 77 = .ok (.if_icmp .ne 17, 3) := by decide +kernel
theorem dX6_mayBe_80 : decode cX6_mayBe 80 = .ok (.iload_n 1, 1) := by decide +kernel
theorem dX6_mayBe_81 : decode cX6_mayBe 81 = .ok (.i2l, 1) := by decide +kernel
theorem dX6_mayBe_82 : decode cX6_mayBe 82 = .ok (.lconst 0, 1) := by decide +kernel
theorem dX6_mayBe_83 : decode cX6_mayBe 83 = .ok (.lconst 1, 1) := by decide +kernel
theorem dX6_mayBe_84 : decode cX6_mayBe 84 = .ok (.invokestatic 54, 3) := by decide +kernel
theorem dX6_mayBe_87 : decode cX6_mayBe 87 = .ok (.ifCond .eq 7, 3) := by decide +kernel
theorem dX6_mayBe_90 : decode cX6_mayBe 90 = .ok (.iconst 1, 1) := by decide +kernel
theorem dX6_mayBe_91 : decode cX6_mayBe 91 = .ok (.goto 4, 3) := by decide +kernel
theorem dX6_mayBe_94 : decode cX6_mayBe 94 = .ok (.iconst 0, 1) := by decide +kernel
theorem dX6_mayBe_95 : decode cX6_mayBe 95 = .ok (.ireturn, 1) := by decide +kernel
set_option maxRecDepth 20000 in
theorem ggX6_change_X6_isHouse : GoodIn wsX6_change wsX6_isHouse := goodIn_r _ [4, 5, 6, 7, 3, 8] (by decide +kernel) (by decide +kernel)
set_option maxRecDepth 20000 in
theorem gX6_change_X6_isHouse : GoodIn wsX6_change (va_wsS RX6 87 yX6_isHouse wsX6_isHouse) := goodIn_app (goodIn_of _ (by decide +kernel)) ggX6_change_X6_isHouse
set_option maxRecDepth 20000 in
theorem ggX6_change_X6_mayBe : GoodIn wsX6_change wsX6_mayBe := goodIn_r _ [11, 12, 13, 14, 15, 16, 3, 17, 18, 6, 7, 8] (by decide +kernel) (by decide +kernel)
set_option maxRecDepth 20000 in
theorem gX6_change_X6_mayBe : GoodIn wsX6_change (va_wsS RX6 90 yX6_mayBe wsX6_mayBe) := goodIn_app (goodIn_of _ (by decide +kernel)) ggX6_change_X6_mayBe
set_option maxRecDepth 20000 in
theorem ggX6_change_X6_becomes : GoodIn wsX6_change wsX6_becomes := goodIn_r _ [22, 23, 30, 31, 32, 33, 34, 35, 36, 37, 38, 39, 40, 41, 42, 43, 44, 45, 46] (by decide +kernel) (by decide +kernel)
set_option maxRecDepth 20000 in
theorem gX6_change_X6_becomes : GoodIn wsX6_change (wsV RX6 93 RX6 yX6_becomes wsX6_becomes) := goodIn_app (goodIn_of _ (by decide +kernel)) ggX6_change_X6_becomes
set_option maxRecDepth 20000 in
theorem ggX6_change_X6_finds : GoodIn wsX6_change wsX6_finds := goodIn_r _ [27, 28, 29, 30, 31, 32, 33, 34, 35, 36, 37, 38, 39, 40, 41, 42, 43, 44, 45, 46] (by decide +kernel) (by decide +kernel)
set_option maxRecDepth 20000 in
theorem gX6_change_X6_finds : GoodIn wsX6_change (wsV RX6 96 RX6 yX6_finds wsX6_finds) := goodIn_app (goodIn_of _ (by decide +kernel)) ggX6_change_X6_finds
theorem dX6_change_0 : decode cX6_change 0 = .ok (.iload_n 1, 1) := by decide +kernel
theorem dX6_change_1 : decode cX6_change 1 = .ok (.invokestatic 87, 3) := by decide +kernel
theorem dX6_change_4 : decode cX6_change 4 = .ok (.ifCond .eq 27, 3) := by decide +kernel
theorem dX6_change_7 : decode cX6_change 7 = .ok (.iload_n 2, 1) := by decide +kernel
theorem dX6_change_8 : decode cX6_change 8 = .ok (.iload_n 3, 1) := by decide +kernel
theorem dX6_change_9 : decode cX6_change 9 = .ok (.invokestatic 90, 3) := by decide +kernel
theorem dX6_change_12 : decode cX6_change 12 = .ok (.ifCond .eq 19, 3) := by decide +kernel
theorem dX6_change_15 : decode cX6_change 15 = .ok (.aload_n 0, 1) := by decide +kernel
theorem dX6_change_16 : decode cX6_change 16 = .ok (.iconst 5, 1) := by decide +kernel
theorem dX6_change_17 : decode cX6_change 17 = .ok (.bipush 6, 2) := by decide +kernel
theorem dX6_change_19 : decode cX6_change 19 = .ok (.iload_n 1, 1) := by decide +kernel
theorem dX6_change_20 : decode cX6_change 20 = .ok (.imul, 1) := by decide +kernel
theorem dX6_change_21 : decode cX6_change 21 = .ok (.iadd, 1) := by decide +kernel
theorem dX6_change_22 : decode cX6_change 22 = .ok (.iload_n 2, 1) := by decide +kernel
theorem dX6_change_23 : decode cX6_change 23 = .ok (.iadd, 1) := by decide +kernel
theorem dX6_change_24 : decode cX6_change 24 = .ok (.iload_n 3, 1) := by decide +kernel
theorem dX6_change_25 : decode cX6_change 25 = .ok (.invokevirtual 93, 3) := by decide +kernel
theorem dX6_change_28 : decode cX6_change 28 = .ok (.goto 8, 3) := by decide +kernel
theorem dX6_change_31 : decode cX6_change 31 = .ok (.aload_n 0, 1) := by decide +kernel
theorem dX6_change_32 : decode cX6_change 32 = .ok (.iconst 0, 1) := by decide +kernel
theorem dX6_change_33 : decode cX6_change 33 = .ok (.invokevirtual 96, 3) := by decide +kernel
theorem dX6_change_36 : decode cX6_change 36 = .ok (.ireturn, 1) := by decide +kernel
set_option maxRecDepth 20000 in
theorem ggX6_of_X6_isHouse : GoodIn wsX6_of wsX6_isHouse := goodIn_r _ [5, 6, 7, 8, 4, 9] (by decide +kernel) (by decide +kernel)
set_option maxRecDepth 20000 in
theorem gX6_of_X6_isHouse : GoodIn wsX6_of (va_wsS RX6 87 yX6_isHouse wsX6_isHouse) := goodIn_app (goodIn_of _ (by decide +kernel)) ggX6_of_X6_isHouse
set_option maxRecDepth 20000 in
theorem ggX6_of_X6_in : GoodIn wsX6_of wsX6_in := goodIn_r _ [9] (by decide +kernel) (by decide +kernel)
set_option maxRecDepth 20000 in
theorem gX6_of_X6_in : GoodIn wsX6_of (va_wsS RX6 54 yX6_in wsX6_in) := goodIn_app (goodIn_of _ (by decide +kernel)) ggX6_of_X6_in
set_option maxRecDepth 20000 in
theorem ggX6_of_X6_finds : GoodIn wsX6_of wsX6_finds := goodIn_r _ [13, 14, 15, 47, 48, 49, 50, 51, 52, 53, 54, 55, 56, 57, 58, 59, 60, 61, 62, 63] (by decide +kernel) (by decide +kernel)
set_option maxRecDepth 20000 in
theorem gX6_of_X6_finds : GoodIn wsX6_of (wsV RX6 96 RX6 yX6_finds wsX6_finds) := goodIn_app (goodIn_of _ (by decide +kernel)) ggX6_of_X6_finds
set_option maxRecDepth 20000 in
theorem ggX6_of_X6_uses : GoodIn wsX6_of wsX6_uses := goodIn_r _ [19, 20, 21, 22, 23, 24, 25, 26, 27, 4, 28, 47, 48, 49, 50, 51, 52, 53, 54, 55, 56, 57, 58, 59, 60, 61, 62, 63] (by decide +kernel) (by decide +kernel)
set_option maxRecDepth 20000 in
theorem gX6_of_X6_uses : GoodIn wsX6_of (wsV RX6 101 RX6 yX6_uses wsX6_uses) := goodIn_app (goodIn_of _ (by decide +kernel)) ggX6_of_X6_uses
set_option maxRecDepth 20000 in
theorem ggX6_of_X6_keeps : GoodIn wsX6_of wsX6_keeps := goodIn_r _ [32, 25, 26, 27, 4, 28, 24, 47, 48, 49, 50, 51, 52, 53, 54, 55, 56, 57, 58, 59, 60, 61, 62, 63] (by decide +kernel) (by decide +kernel)
set_option maxRecDepth 20000 in
theorem gX6_of_X6_keeps : GoodIn wsX6_of (wsV RX6 104 RX6 yX6_keeps wsX6_keeps) := goodIn_app (goodIn_of _ (by decide +kernel)) ggX6_of_X6_keeps
set_option maxRecDepth 20000 in
theorem ggX6_of_X6_loses : GoodIn wsX6_of wsX6_loses := goodIn_r _ [36, 25, 26, 27, 4, 28, 24, 37, 38, 39, 40, 41, 42, 47, 48, 49, 50, 51, 52, 53, 54, 55, 56, 57, 58, 59, 60, 61, 62, 63] (by decide +kernel) (by decide +kernel)
set_option maxRecDepth 20000 in
theorem gX6_of_X6_loses : GoodIn wsX6_of (wsV RX6 107 RX6 yX6_loses wsX6_loses) := goodIn_app (goodIn_of _ (by decide +kernel)) ggX6_of_X6_loses
set_option maxRecDepth 20000 in
theorem ggX6_of_X6_leads : GoodIn wsX6_of wsX6_leads := goodIn_r _ [46, 25, 26, 27, 4, 28, 24, 47, 48, 49, 50, 51, 52, 53, 54, 55, 56, 57, 58, 59, 60, 61, 62, 63] (by decide +kernel) (by decide +kernel)
set_option maxRecDepth 20000 in
theorem gX6_of_X6_leads : GoodIn wsX6_of (wsV RX6 110 RX6 yX6_leads wsX6_leads) := goodIn_app (goodIn_of _ (by decide +kernel)) ggX6_of_X6_leads
set_option maxRecDepth 20000 in
theorem ggX6_of_X6_its : GoodIn wsX6_of wsX6_its := goodIn_r _ [28, 24, 47, 48, 49, 50, 51, 52, 53, 54, 55, 56, 57, 58, 59, 60, 61, 62, 63] (by decide +kernel) (by decide +kernel)
set_option maxRecDepth 20000 in
theorem gX6_of_X6_its : GoodIn wsX6_of (wsV RX6 64 RX6 yX6_its wsX6_its) := goodIn_app (goodIn_of _ (by decide +kernel)) ggX6_of_X6_its
theorem dX6_of_0 : decode cX6_of 0 = .ok (.iload_n 1, 1) := by decide +kernel
theorem dX6_of_1 : decode cX6_of 1 = .ok (.invokestatic 87, 3) := by decide +kernel
theorem dX6_of_4 : decode cX6_of 4 = .ok (.ifCond .eq 15, 3) := by decide +kernel
theorem dX6_of_7 : decode cX6_of 7 = .ok (.iload_n 2, 1) := by decide +kernel
theorem dX6_of_8 : decode cX6_of 8 = .ok (.i2l, 1) := by decide +kernel
theorem dX6_of_9 : decode cX6_of 9 = .ok (.lconst 0, 1) := by decide +kernel
theorem dX6_of_10 : decode cX6_of 10 = .ok (.ldc2_w 99, 3) := by decide +kernel
theorem dX6_of_13 : decode cX6_of 13 = .ok (.invokestatic 54, 3) := by decide +kernel
theorem dX6_of_16 : decode cX6_of 16 = .ok (.ifCond .ne 9, 3) := by decide +kernel
theorem dX6_of_19 : decode cX6_of 19 = .ok (.aload_n 0, 1) := by decide +kernel
theorem dX6_of_20 : decode cX6_of 20 = .ok (.iconst 0, 1) := by decide +kernel
theorem dX6_of_21 : decode cX6_of 21 = .ok (.invokevirtual 96, 3) := by decide +kernel
theorem dX6_of_24 : decode cX6_of 24 = .ok (.ireturn, 1) := by decide +kernel
theorem dX6_of_25 : decode cX6_of 25 = .ok (.iload_n 2, 1) := by decide +kernel
theorem dX6_of_26 : decode cX6_of 26 = .ok (.tableswitch 54 6 9 #[30, 36, 42, 48], 30) := by decide +kernel
theorem dX6_of_56 : decode cX6_of 56 = .ok (.aload_n 0, 1) := by decide +kernel
theorem dX6_of_57 : decode cX6_of 57 = .ok (.iload_n 1, 1) := by decide +kernel
theorem dX6_of_58 : decode cX6_of 58 = .ok (.invokevirtual 101, 3) := by decide +kernel
theorem dX6_of_61 : decode cX6_of 61 = .ok (.ireturn, 1) := by decide +kernel
theorem dX6_of_62 : decode cX6_of 62 = .ok (.aload_n 0, 1) := by decide +kernel
theorem dX6_of_63 : decode cX6_of 63 = .ok (.iload_n 1, 1) := by decide +kernel
theorem dX6_of_64 : decode cX6_of 64 = .ok (.invokevirtual 104, 3) := by decide +kernel
theorem dX6_of_67 : decode cX6_of 67 = .ok (.ireturn, 1) := by decide +kernel
theorem dX6_of_68 : decode cX6_of 68 = .ok (.aload_n 0, 1) := by decide +kernel
theorem dX6_of_69 : decode cX6_of 69 = .ok (.iload_n 1, 1) := by decide +kernel
theorem dX6_of_70 : decode cX6_of 70 = .ok (.invokevirtual 107, 3) := by decide +kernel
theorem dX6_of_73 : decode cX6_of 73 = .ok (.ireturn, 1) := by decide +kernel
theorem dX6_of_74 : decode cX6_of 74 = .ok (.aload_n 0, 1) := by decide +kernel
theorem dX6_of_75 : decode cX6_of 75 = .ok (.iload_n 1, 1) := by decide +kernel
theorem dX6_of_76 : decode cX6_of 76 = .ok (.invokevirtual 110, 3) := by decide +kernel
theorem dX6_of_79 : decode cX6_of 79 = .ok (.ireturn, 1) := by decide +kernel
theorem dX6_of_80 : decode cX6_of 80 = .ok (.aload_n 0, 1) := by decide +kernel
theorem dX6_of_81 : decode cX6_of 81 = .ok (.iload_n 1, 1) := by decide +kernel
theorem dX6_of_82 : decode cX6_of 82 = .ok (.iload_n 2, 1) := by decide +kernel
theorem dX6_of_83 : decode cX6_of 83 = .ok (.invokevirtual 64, 3) := by decide +kernel
theorem dX6_of_86 : decode cX6_of 86 = .ok (.ireturn, 1) := by decide +kernel
set_option maxRecDepth 20000 in
theorem ggX6_rain_X6_in : GoodIn wsX6_rain wsX6_in := goodIn_r _ [5] (by decide +kernel) (by decide +kernel)
set_option maxRecDepth 20000 in
theorem gX6_rain_X6_in : GoodIn wsX6_rain (va_wsS RX6 54 yX6_in wsX6_in) := goodIn_app (goodIn_of _ (by decide +kernel)) ggX6_rain_X6_in
set_option maxRecDepth 20000 in
theorem ggX6_rain_X6_becomes : GoodIn wsX6_rain wsX6_becomes := goodIn_r _ [9, 10, 17, 18, 19, 20, 21, 22, 23, 24, 25, 26, 27, 28, 29, 30, 31, 32, 33] (by decide +kernel) (by decide +kernel)
set_option maxRecDepth 20000 in
theorem gX6_rain_X6_becomes : GoodIn wsX6_rain (wsV RX6 93 RX6 yX6_becomes wsX6_becomes) := goodIn_app (goodIn_of _ (by decide +kernel)) ggX6_rain_X6_becomes
set_option maxRecDepth 20000 in
theorem ggX6_rain_X6_finds : GoodIn wsX6_rain wsX6_finds := goodIn_r _ [14, 15, 16, 17, 18, 19, 20, 21, 22, 23, 24, 25, 26, 27, 28, 29, 30, 31, 32, 33] (by decide +kernel) (by decide +kernel)
set_option maxRecDepth 20000 in
theorem gX6_rain_X6_finds : GoodIn wsX6_rain (wsV RX6 96 RX6 yX6_finds wsX6_finds) := goodIn_app (goodIn_of _ (by decide +kernel)) ggX6_rain_X6_finds
theorem dX6_rain_0 : decode cX6_rain 0 = .ok (.iload_n 1, 1) := by decide +kernel
theorem dX6_rain_1 : decode cX6_rain 1 = .ok (.i2l, 1) := by decide +kernel
theorem dX6_rain_2 : decode cX6_rain 2 = .ok (.lconst 0, 1) := by decide +kernel
theorem dX6_rain_3 : decode cX6_rain 3 = .ok (.ldc2_w 85, 3) := by decide +kernel
theorem dX6_rain_6 : decode cX6_rain 6 = .ok (.invokestatic 54, 3) := by decide +kernel
theorem dX6_rain_9 : decode cX6_rain 9 = .ok (.ifCond .eq 12, 3) := by decide +kernel
theorem dX6_rain_12 : decode cX6_rain 12 = .ok (.aload_n 0, 1) := by decide +kernel
theorem dX6_rain_13 : decode cX6_rain 13 = .ok (.iconst 2, 1) := by decide +kernel
theorem dX6_rain_14 : decode cX6_rain 14 = .ok (.iload_n 1, 1) := by decide +kernel
theorem dX6_rain_15 : decode cX6_rain 15 = .ok (.invokevirtual 93, 3) := by decide +kernel
theorem dX6_rain_18 : decode cX6_rain 18 = .ok (.goto 8, 3) := by decide +kernel
theorem dX6_rain_21 : decode cX6_rain 21 = .ok (.aload_n 0, 1) := by decide +kernel
theorem dX6_rain_22 : decode cX6_rain 22 = .ok (.iconst 0, 1) := by decide +kernel
theorem dX6_rain_23 : decode cX6_rain 23 = .ok (.invokevirtual 96, 3) := by decide +kernel
theorem dX6_rain_26 : decode cX6_rain 26 = .ok (.ireturn, 1) := by decide +kernel
set_option maxRecDepth 20000 in
theorem ggX6_spoutSet_X6_its : GoodIn wsX6_spoutSet wsX6_its := goodIn_r _ [5, 6, 7, 8, 9, 10, 11, 12, 13, 14, 15, 16, 17, 18, 19, 20, 21, 22, 23] (by decide +kernel) (by decide +kernel)
set_option maxRecDepth 20000 in
theorem gX6_spoutSet_X6_its : GoodIn wsX6_spoutSet (wsV RX6 64 RX6 yX6_its wsX6_its) := goodIn_app (goodIn_of _ (by decide +kernel)) ggX6_spoutSet_X6_its
theorem dX6_spoutSet_0 : decode cX6_spoutSet 0 = .ok (.iconst 0, 1) := by decide +kernel
theorem dX6_spoutSet_1 : decode cX6_spoutSet 1 = .ok (.istore_n 1, 1) := by decide +kernel
theorem dX6_spoutSet_2 : decode cX6_spoutSet 2 = .ok (.iconst 0, 1) := by decide +kernel
theorem dX6_spoutSet_3 : decode cX6_spoutSet 3 = .ok (.istore_n 2, 1) := by decide +kernel
theorem dX6_spoutSet_4 : decode cX6_spoutSet 4 = .ok (.iload_n 2, 1) := by decide +kernel
theorem dX6_spoutSet_5 : decode cX6_spoutSet 5 = .ok (.bipush 11, 2) := by decide +kernel
theorem dX6_spoutSet_7 : decode cX6_spoutSet 7 = .ok (.if_icmp .ge 20, 3) := by decide +kernel
theorem dX6_spoutSet_10 : decode cX6_spoutSet 10 = .ok (.iload_n 1, 1) := by decide +kernel
theorem dX6_spoutSet_11 : decode cX6_spoutSet 11 = .ok (.aload_n 0, 1) := by decide +kernel
theorem dX6_spoutSet_12 : decode cX6_spoutSet 12 = .ok (.iload_n 2, 1) := by decide +kernel
theorem dX6_spoutSet_13 : decode cX6_spoutSet 13 = .ok (.iconst 4, 1) := by decide +kernel
theorem dX6_spoutSet_14 : decode cX6_spoutSet 14 = .ok (.invokevirtual 64, 3) := by decide +kernel
theorem dX6_spoutSet_17 : decode cX6_spoutSet 17 = .ok (.iload_n 2, 1) := by decide +kernel
theorem dX6_spoutSet_18 : decode cX6_spoutSet 18 = .ok (.ishl, 1) := by decide +kernel
theorem dX6_spoutSet_19 : decode cX6_spoutSet 19 = .ok (.ior, 1) := by decide +kernel
theorem dX6_spoutSet_20 : decode cX6_spoutSet 20 = .ok (.istore_n 1, 1) := by decide +kernel
theorem dX6_spoutSet_21 : decode cX6_spoutSet 21 = .ok (.iinc 2 1, 3) := by decide +kernel
theorem dX6_spoutSet_24 : decode cX6_spoutSet 24 = .ok (.goto (-20), 3) := by decide +kernel
theorem dX6_spoutSet_27 : decode cX6_spoutSet 27 = .ok (.iload_n 1, 1) := by decide +kernel
theorem dX6_spoutSet_28 : decode cX6_spoutSet 28 = .ok (.ireturn, 1) := by decide +kernel
set_option maxRecDepth 20000 in
theorem ggX6_spouts_X6_in : GoodIn wsX6_spouts wsX6_in := goodIn_r _ [5] (by decide +kernel) (by decide +kernel)
set_option maxRecDepth 20000 in
theorem gX6_spouts_X6_in : GoodIn wsX6_spouts (va_wsS RX6 54 yX6_in wsX6_in) := goodIn_app (goodIn_of _ (by decide +kernel)) ggX6_spouts_X6_in
set_option maxRecDepth 20000 in
theorem ggX6_spouts_X6_finds : GoodIn wsX6_spouts wsX6_finds := goodIn_r _ [9, 10, 11, 25, 26, 27, 28, 29, 30, 31, 32, 33, 34, 35, 36, 37, 38, 39, 40, 41] (by decide +kernel) (by decide +kernel)
set_option maxRecDepth 20000 in
theorem gX6_spouts_X6_finds : GoodIn wsX6_spouts (wsV RX6 96 RX6 yX6_finds wsX6_finds) := goodIn_app (goodIn_of _ (by decide +kernel)) ggX6_spouts_X6_finds
set_option maxRecDepth 20000 in
theorem ggX6_spouts_X6_spoutSet : GoodIn wsX6_spouts wsX6_spoutSet := goodIn_r _ [15, 16, 17, 18, 4, 19, 20, 25, 26, 27, 28, 29, 30, 31, 32, 33, 34, 35, 36, 37, 38, 39, 40, 41] (by decide +kernel) (by decide +kernel)
set_option maxRecDepth 20000 in
theorem gX6_spouts_X6_spoutSet : GoodIn wsX6_spouts (wsV RX6 115 RX6 yX6_spoutSet wsX6_spoutSet) := goodIn_app (goodIn_of _ (by decide +kernel)) ggX6_spouts_X6_spoutSet
set_option maxRecDepth 20000 in
theorem ggX6_spouts_X6_sets : GoodIn wsX6_spouts wsX6_sets := goodIn_r _ [24, 20, 25, 26, 27, 28, 29, 30, 31, 32, 33, 34, 35, 36, 37, 38, 39, 40, 41] (by decide +kernel) (by decide +kernel)
set_option maxRecDepth 20000 in
theorem gX6_spouts_X6_sets : GoodIn wsX6_spouts (wsV RX6 43 RX6 yX6_sets wsX6_sets) := goodIn_app (goodIn_of _ (by decide +kernel)) ggX6_spouts_X6_sets
theorem dX6_spouts_0 : decode cX6_spouts 0 = .ok (.iload_n 1, 1) := by decide +kernel
theorem dX6_spouts_1 : decode cX6_spouts 1 = .ok (.i2l, 1) := by decide +kernel
theorem dX6_spouts_2 : decode cX6_spouts 2 = .ok (.lconst 0, 1) := by decide +kernel
theorem dX6_spouts_3 : decode cX6_spouts 3 = .ok (.ldc2_w 113, 3) := by decide +kernel
theorem dX6_spouts_6 : decode cX6_spouts 6 = .ok (.invokestatic 54, 3) := by decide +kernel
theorem dX6_spouts_9 : decode cX6_spouts 9 = .ok (.ifCond .ne 9, 3) := by decide +kernel
theorem dX6_spouts_12 : decode cX6_spouts 12 = .ok (.aload_n 0, 1) := by decide +kernel
theorem dX6_spouts_13 : decode cX6_spouts 13 = .ok (.iconst 0, 1) := by decide +kernel
theorem dX6_spouts_14 : decode cX6_spouts 14 = .ok (.invokevirtual 96, 3) := by decide +kernel
theorem dX6_spouts_17 : decode cX6_spouts 17 = .ok (.ireturn, 1) := by decide +kernel
theorem dX6_spouts_18 : decode cX6_spouts 18 = .ok (.aload_n 0, 1) := by decide +kernel
theorem dX6_spouts_19 : decode cX6_spouts 19 = .ok (.invokevirtual 115, 3) := by decide +kernel
theorem dX6_spouts_22 : decode cX6_spouts 22 = .ok (.istore_n 2, 1) := by decide +kernel
theorem dX6_spouts_23 : decode cX6_spouts 23 = .ok (.iconst 0, 1) := by decide +kernel
theorem dX6_spouts_24 : decode cX6_spouts 24 = .ok (.istore_n 3, 1) := by decide +kernel
theorem dX6_spouts_25 : decode cX6_spouts 25 = .ok (.iload_n 3, 1) := by decide +kernel
theorem dX6_spouts_26 : decode cX6_spouts 26 = .ok (.bipush 11, 2) := by decide +kernel
theorem dX6_spouts_28 : decode cX6_spouts 28 = .ok (.if_icmp .ge 20, 3) := by decide +kernel
theorem dX6_spouts_31 : decode cX6_spouts 31 = .ok (.aload_n 0, 1) := by decide +kernel
theorem dX6_spouts_32 : decode cX6_spouts 32 = .ok (.iload_n 3, 1) := by decide +kernel
theorem dX6_spouts_33 : decode cX6_spouts 33 = .ok (.iconst 4, 1) := by decide +kernel
theorem dX6_spouts_34 : decode cX6_spouts 34 = .ok (.iload_n 1, 1) := by decide +kernel
theorem dX6_spouts_35 : decode cX6_spouts 35 = .ok (.iload_n 3, 1) := by decide +kernel
theorem dX6_spouts_36 : decode cX6_spouts 36 = .ok (.ishr, 1) := by decide +kernel
theorem dX6_spouts_37 : decode cX6_spouts 37 = .ok (.iconst 1, 1) := by decide +kernel
theorem dX6_spouts_38 : decode cX6_spouts 38 = .ok (.iand, 1) := by decide +kernel
theorem dX6_spouts_39 : decode cX6_spouts 39 = .ok (.invokevirtual 43, 3) := by decide +kernel
theorem dX6_spouts_42 : decode cX6_spouts 42 = .ok (.iinc 3 1, 3) := by decide +kernel
theorem dX6_spouts_45 : decode cX6_spouts 45 = .ok (.goto (-20), 3) := by decide +kernel
theorem dX6_spouts_48 : decode cX6_spouts 48 = .ok (.iload_n 2, 1) := by decide +kernel
theorem dX6_spouts_49 : decode cX6_spouts 49 = .ok (.ireturn, 1) := by decide +kernel
theorem dX6_lost_0 : decode cX6_lost 0 = .ok (.aload_n 0, 1) := by decide +kernel
theorem dX6_lost_1 : decode cX6_lost 1 = .ok (.getfield 9, 3) := by decide +kernel
theorem dX6_lost_4 : decode cX6_lost 4 = .ok (.iconst 4, 1) := by decide +kernel
theorem dX6_lost_5 : decode cX6_lost 5 = .ok (.ldc 119, 2) := by decide +kernel
theorem dX6_lost_7 : decode cX6_lost 7 = .ok (.aload_n 0, 1) := by decide +kernel
theorem dX6_lost_8 : decode cX6_lost 8 = .ok (.getfield 9, 3) := by decide +kernel
theorem dX6_lost_11 : decode cX6_lost 11 = .ok (.iconst 4, 1) := by decide +kernel
theorem dX6_lost_12 : decode cX6_lost 12 = .ok (.iaload, 1) := by decide +kernel
theorem dX6_lost_13 : decode cX6_lost 13 = .ok (.iload_n 1, 1) := by decide +kernel
theorem dX6_lost_14 : decode cX6_lost 14 = .ok (.iadd, 1) := by decide +kernel
theorem dX6_lost_15 : decode cX6_lost 15 = .ok (.invokestatic 120, 3) := by decide +kernel
theorem dX6_lost_18 : decode cX6_lost 18 = .ok (.iastore, 1) := by decide +kernel
theorem dX6_lost_19 : decode cX6_lost 19 = .ok (.return_, 1) := by decide +kernel
set_option maxRecDepth 20000 in
theorem ggX6_comes_X6_its : GoodIn wsX6_comes wsX6_its := goodIn_r _ [12, 13, 23, 24, 25, 26, 27, 28, 29, 30, 31, 32, 33, 34, 35, 36, 37, 38, 39] (by decide +kernel) (by decide +kernel)
set_option maxRecDepth 20000 in
theorem gX6_comes_X6_its : GoodIn wsX6_comes (wsV RX6 64 RX6 yX6_its wsX6_its) := goodIn_app (goodIn_of _ (by decide +kernel)) ggX6_comes_X6_its
set_option maxRecDepth 20000 in
theorem ggX6_comes_X6_lost : GoodIn wsX6_comes wsX6_lost := goodIn_r _ [17, 13, 18, 5, 6, 3, 7, 23, 24, 25, 26, 27, 28, 29, 30, 31, 32, 33, 34, 35, 36, 37, 38, 39] (by decide +kernel) (by decide +kernel)
set_option maxRecDepth 20000 in
theorem gX6_comes_X6_lost : GoodIn wsX6_comes (wsV RX6 123 RX6 yX6_lost wsX6_lost) := goodIn_app (goodIn_of _ (by decide +kernel)) ggX6_comes_X6_lost
set_option maxRecDepth 20000 in
theorem ggX6_comes_X6_sets : GoodIn wsX6_comes wsX6_sets := goodIn_r _ [22, 13, 23, 24, 25, 26, 27, 28, 29, 30, 31, 32, 33, 34, 35, 36, 37, 38, 39] (by decide +kernel) (by decide +kernel)
set_option maxRecDepth 20000 in
theorem gX6_comes_X6_sets : GoodIn wsX6_comes (wsV RX6 43 RX6 yX6_sets wsX6_sets) := goodIn_app (goodIn_of _ (by decide +kernel)) ggX6_comes_X6_sets
theorem dX6_comes_0 : decode cX6_comes 0 = .ok (.aload_n 0, 1) := by decide +kernel
theorem dX6_comes_1 : decode cX6_comes 1 = .ok (.iload_n 1, 1) := by decide +kernel
theorem dX6_comes_2 : decode cX6_comes 2 = .ok (.iconst 1, 1) := by decide +kernel
theorem dX6_comes_3 : decode cX6_comes 3 = .ok (.invokevirtual 64, 3) := by decide +kernel
theorem dX6_comes_6 : decode cX6_comes 6 = .ok (.iload_n 2, 1) := by decide +kernel
theorem dX6_comes_7 : decode cX6_comes 7 = .ok (.iadd, 1) := by decide +kernel
theorem dX6_comes_8 : decode cX6_comes 8 = .ok (.istore_n 3, 1) := by decide +kernel
theorem dX6_comes_9 : decode cX6_comes 9 = .ok (.aload_n 0, 1) := by decide +kernel
theorem dX6_comes_10 : decode cX6_comes 10 = .ok (.iconst 0, 1) := by decide +kernel
theorem dX6_comes_11 : decode cX6_comes 11 = .ok (.iload_n 3, 1) := by decide +kernel
theorem dX6_comes_12 : decode cX6_comes 12 = .ok (.sipush 9999, 3) := by decide +kernel
theorem dX6_comes_15 : decode cX6_comes 15 = .ok (.isub, 1) := by decide +kernel
theorem dX6_comes_16 : decode cX6_comes 16 = .ok (.invokestatic 68, 3) := by decide +kernel
theorem dX6_comes_19 : decode cX6_comes 19 = .ok (.invokevirtual 123, 3) := by decide +kernel
theorem dX6_comes_22 : decode cX6_comes 22 = .ok (.aload_n 0, 1) := by decide +kernel
theorem dX6_comes_23 : decode cX6_comes 23 = .ok (.iload_n 1, 1) := by decide +kernel
theorem dX6_comes_24 : decode cX6_comes 24 = .ok (.iconst 1, 1) := by decide +kernel
theorem dX6_comes_25 : decode cX6_comes 25 = .ok (.sipush 9999, 3) := by decide +kernel
theorem dX6_comes_28 : decode cX6_comes 28 = .ok (.iload_n 3, 1) := by decide +kernel
theorem dX6_comes_29 : decode cX6_comes 29 = .ok (.invokestatic 120, 3) := by decide +kernel
theorem dX6_comes_32 : decode cX6_comes 32 = .ok (.invokevirtual 43, 3) := by decide +kernel
theorem dX6_comes_35 : decode cX6_comes 35 = .ok (.return_, 1) := by decide +kernel
set_option maxRecDepth 20000 in
theorem ggX6_pour_X6_isHouse : GoodIn wsX6_pour wsX6_isHouse := goodIn_r _ [5, 6, 7, 8, 4, 9] (by decide +kernel) (by decide +kernel)
set_option maxRecDepth 20000 in
theorem gX6_pour_X6_isHouse : GoodIn wsX6_pour (va_wsS RX6 87 yX6_isHouse wsX6_isHouse) := goodIn_app (goodIn_of _ (by decide +kernel)) ggX6_pour_X6_isHouse
set_option maxRecDepth 20000 in
theorem ggX6_pour_X6_in : GoodIn wsX6_pour wsX6_in := goodIn_r _ [9] (by decide +kernel) (by decide +kernel)
set_option maxRecDepth 20000 in
theorem gX6_pour_X6_in : GoodIn wsX6_pour (va_wsS RX6 54 yX6_in wsX6_in) := goodIn_app (goodIn_of _ (by decide +kernel)) ggX6_pour_X6_in
set_option maxRecDepth 20000 in
theorem ggX6_pour_X6_finds : GoodIn wsX6_pour wsX6_finds := goodIn_r _ [13, 14, 15, 41, 42, 43, 44, 45, 46, 47, 48, 49, 50, 51, 52, 53, 54, 55, 56, 57] (by decide +kernel) (by decide +kernel)
set_option maxRecDepth 20000 in
theorem gX6_pour_X6_finds : GoodIn wsX6_pour (wsV RX6 96 RX6 yX6_finds wsX6_finds) := goodIn_app (goodIn_of _ (by decide +kernel)) ggX6_pour_X6_finds
set_option maxRecDepth 20000 in
theorem ggX6_pour_X6_comes : GoodIn wsX6_pour wsX6_comes := goodIn_r _ [19, 20, 21, 22, 23, 24, 25, 26, 27, 28, 29, 4, 30, 31, 32, 33, 34, 35, 36, 37, 38, 39, 40, 41, 42, 43, 44, 45, 46, 47, 48, 49, 50, 51, 52, 53, 54, 55, 56, 57] (by decide +kernel) (by decide +kernel)
set_option maxRecDepth 20000 in
theorem gX6_pour_X6_comes : GoodIn wsX6_pour (wsV RX6 127 RX6 yX6_comes wsX6_comes) := goodIn_app (goodIn_of _ (by decide +kernel)) ggX6_pour_X6_comes
set_option maxRecDepth 20000 in
theorem ggX6_pour_X6_its : GoodIn wsX6_pour wsX6_its := goodIn_r _ [30, 31, 41, 42, 43, 44, 45, 46, 47, 48, 49, 50, 51, 52, 53, 54, 55, 56, 57] (by decide +kernel) (by decide +kernel)
set_option maxRecDepth 20000 in
theorem gX6_pour_X6_its : GoodIn wsX6_pour (wsV RX6 64 RX6 yX6_its wsX6_its) := goodIn_app (goodIn_of _ (by decide +kernel)) ggX6_pour_X6_its
theorem dX6_pour_0 : decode cX6_pour 0 = .ok (.iload_n 1, 1) := by decide +kernel
theorem dX6_pour_1 : decode cX6_pour 1 = .ok (.invokestatic 87, 3) := by decide +kernel
theorem dX6_pour_4 : decode cX6_pour 4 = .ok (.ifCond .eq 15, 3) := by decide +kernel
theorem dX6_pour_7 : decode cX6_pour 7 = .ok (.iload_n 2, 1) := by decide +kernel
theorem dX6_pour_8 : decode cX6_pour 8 = .ok (.i2l, 1) := by decide +kernel
theorem dX6_pour_9 : decode cX6_pour 9 = .ok (.lconst 0, 1) := by decide +kernel
theorem dX6_pour_10 : decode cX6_pour 10 = .ok (.ldc2_w 81, 3) := by decide +kernel
theorem dX6_pour_13 : decode cX6_pour 13 = .ok (.invokestatic 54, 3) := by decide +kernel
theorem dX6_pour_16 : decode cX6_pour 16 = .ok (.ifCond .ne 9, 3) := by decide +kernel
theorem dX6_pour_19 : decode cX6_pour 19 = .ok (.aload_n 0, 1) := by decide +kernel
theorem dX6_pour_20 : decode cX6_pour 20 = .ok (.iconst 0, 1) := by decide +kernel
theorem dX6_pour_21 : decode cX6_pour 21 = .ok (.invokevirtual 96, 3) := by decide +kernel
theorem dX6_pour_24 : decode cX6_pour 24 = .ok (.ireturn, 1) := by decide +kernel
theorem dX6_pour_25 : decode cX6_pour 25 = .ok (.aload_n 0, 1) := by decide +kernel
theorem dX6_pour_26 : decode cX6_pour 26 = .ok (.iload_n 1, 1) := by decide +kernel
theorem dX6_pour_27 : decode cX6_pour 27 = .ok (.iload_n 2, 1) := by decide +kernel
theorem dX6_pour_28 : decode cX6_pour 28 = .ok (.invokevirtual 127, 3) := by decide +kernel
theorem dX6_pour_31 : decode cX6_pour 31 = .ok (.aload_n 0, 1) := by decide +kernel
theorem dX6_pour_32 : decode cX6_pour 32 = .ok (.iload_n 1, 1) := by decide +kernel
theorem dX6_pour_33 : decode cX6_pour 33 = .ok (.iconst 1, 1) := by decide +kernel
theorem dX6_pour_34 : decode cX6_pour 34 = .ok (.invokevirtual 64, 3) := by decide +kernel
theorem dX6_pour_37 : decode cX6_pour 37 = .ok (.ireturn, 1) := by decide +kernel
set_option maxRecDepth 20000 in
theorem ggX6_takesOwn_X6_uses : GoodIn wsX6_takesOwn wsX6_uses := goodIn_r _ [13, 6, 7, 4, 8, 14, 15, 16, 17, 12, 18, 23, 24, 25, 26, 27, 28, 29, 30, 31, 32, 33, 34, 35, 36, 37, 38, 39] (by decide +kernel) (by decide +kernel)
set_option maxRecDepth 20000 in
theorem gX6_takesOwn_X6_uses : GoodIn wsX6_takesOwn (wsV RX6 101 RX6 yX6_uses wsX6_uses) := goodIn_app (goodIn_of _ (by decide +kernel)) ggX6_takesOwn_X6_uses
set_option maxRecDepth 20000 in
theorem ggX6_takesOwn_X6_its : GoodIn wsX6_takesOwn wsX6_its := goodIn_r _ [18, 14, 23, 24, 25, 26, 27, 28, 29, 30, 31, 32, 33, 34, 35, 36, 37, 38, 39] (by decide +kernel) (by decide +kernel)
set_option maxRecDepth 20000 in
theorem gX6_takesOwn_X6_its : GoodIn wsX6_takesOwn (wsV RX6 64 RX6 yX6_its wsX6_its) := goodIn_app (goodIn_of _ (by decide +kernel)) ggX6_takesOwn_X6_its
set_option maxRecDepth 20000 in
theorem ggX6_takesOwn_X6_sets : GoodIn wsX6_takesOwn wsX6_sets := goodIn_r _ [22, 14, 23, 24, 25, 26, 27, 28, 29, 30, 31, 32, 33, 34, 35, 36, 37, 38, 39] (by decide +kernel) (by decide +kernel)
set_option maxRecDepth 20000 in
theorem gX6_takesOwn_X6_sets : GoodIn wsX6_takesOwn (wsV RX6 43 RX6 yX6_sets wsX6_sets) := goodIn_app (goodIn_of _ (by decide +kernel)) ggX6_takesOwn_X6_sets
theorem dX6_takesOwn_0 : decode cX6_takesOwn 0 = .ok (.aload_n 0, 1) := by decide +kernel
theorem dX6_takesOwn_1 : decode cX6_takesOwn 1 = .ok (.iload_n 1, 1) := by decide +kernel
theorem dX6_takesOwn_2 : decode cX6_takesOwn 2 = .ok (.invokevirtual 101, 3) := by decide +kernel
theorem dX6_takesOwn_5 : decode cX6_takesOwn 5 = .ok (.istore_n 2, 1) := by decide +kernel
theorem dX6_takesOwn_6 : decode cX6_takesOwn 6 = .ok (.aload_n 0, 1) := by decide +kernel
theorem dX6_takesOwn_7 : decode cX6_takesOwn 7 = .ok (.iload_n 1, 1) := by decide +kernel
theorem dX6_takesOwn_8 : decode cX6_takesOwn 8 = .ok (.iconst 1, 1) := by decide +kernel
theorem dX6_takesOwn_9 : decode cX6_takesOwn 9 = .ok (.invokevirtual 64, 3) := by decide +kernel
theorem dX6_takesOwn_12 : decode cX6_takesOwn 12 = .ok (.iload_n 2, 1) := by decide +kernel
theorem dX6_takesOwn_13 : decode cX6_takesOwn 13 = .ok (.isub, 1) := by decide +kernel
theorem dX6_takesOwn_14 : decode cX6_takesOwn 14 = .ok (.istore_n 3, 1) := by decide +kernel
theorem dX6_takesOwn_15 : decode cX6_takesOwn 15 = .ok (.iload_n 3, 1) := by decide +kernel
theorem dX6_takesOwn_16 : decode cX6_takesOwn 16 = .ok (.ifCond .ge 35, 3) := by decide +kernel
theorem dX6_takesOwn_19 : decode cX6_takesOwn 19 = .ok (.aload_n 0, 1) := by decide +kernel
theorem dX6_takesOwn_20 : decode cX6_takesOwn 20 = .ok (.dup, 1) := by decide +kernel
theorem dX6_takesOwn_21 : decode cX6_takesOwn 21 = .ok (.getfield 131, 3) := by decide +kernel
theorem dX6_takesOwn_24 : decode cX6_takesOwn 24 = .ok (.iconst 1, 1) := by decide +kernel
theorem dX6_takesOwn_25 : decode cX6_takesOwn 25 = .ok (.iload_n 1, 1) := by decide +kernel
theorem dX6_takesOwn_26 : decode cX6_takesOwn 26 = .ok (.ishl, 1) := by decide +kernel
theorem dX6_takesOwn_27 : decode cX6_takesOwn 27 = .ok (.ior, 1) := by decide +kernel
theorem dX6_takesOwn_28 : decode cX6_takesOwn 28 = .ok (.putfield 131, 3) := by decide +kernel
theorem dX6_takesOwn_31 : decode cX6_takesOwn 31 = .ok (.aload_n 0, 1) := by decide +kernel
theorem dX6_takesOwn_32 : decode cX6_takesOwn 32 = .ok (.iload_n 1, 1) := by decide +kernel
theorem dX6_takesOwn_33 : decode cX6_takesOwn 33 = .ok (.iconst 5, 1) := by decide +kernel
theorem dX6_takesOwn_34 : decode cX6_takesOwn 34 = .ok (.sipush 9999, 3) := by decide +kernel
theorem dX6_takesOwn_37 : decode cX6_takesOwn 37 = .ok (.aload_n 0, 1) := by decide +kernel
theorem dX6_takesOwn_38 : decode cX6_takesOwn 38 = .ok (.iload_n 1, 1) := by decide +kernel
theorem dX6_takesOwn_39 : decode cX6_takesOwn 39 = .ok (.iconst 5, 1) := by decide +kernel
theorem dX6_takesOwn_40 : decode cX6_takesOwn 40 = .ok (.invokevirtual 64, 3) := by decide +kernel
theorem dX6_takesOwn_43 : decode cX6_takesOwn 43 = .ok (.iconst 1, 1) := by decide +kernel
theorem dX6_takesOwn_44 : decode cX6_takesOwn 44 = .ok (.iadd, 1) := by decide +kernel
theorem dX6_takesOwn_45 : decode cX6_takesOwn 45 = .ok (.invokestatic 120, 3) := by decide +kernel
theorem dX6_takesOwn_48 : decode cX6_takesOwn 48 = .ok (.invokevirtual 43, 3) := by decide +kernel
theorem dX6_takesOwn_51 : decode cX6_takesOwn 51 = .ok (.aload_n 0, 1) := by decide +kernel
theorem dX6_takesOwn_52 : decode cX6_takesOwn 52 = .ok (.iload_n 1, 1) := by decide +kernel
theorem dX6_takesOwn_53 : decode cX6_takesOwn 53 = .ok (.iconst 1, 1) := by decide +kernel
theorem dX6_takesOwn_54 : decode cX6_takesOwn 54 = .ok (.iconst 0, 1) := by decide +kernel
theorem dX6_takesOwn_55 : decode cX6_takesOwn 55 = .ok (.iload_n 3, 1) := by decide +kernel
theorem dX6_takesOwn_56 : decode cX6_takesOwn 56 = .ok (.invokestatic 68, 3) := by decide +kernel
theorem dX6_takesOwn_59 : decode cX6_takesOwn 59 = .ok (.invokevirtual 43, 3) := by decide +kernel
theorem dX6_takesOwn_62 : decode cX6_takesOwn 62 = .ok (.return_, 1) := by decide +kernel
set_option maxRecDepth 20000 in
theorem ggX6_anHour_X6_comes : GoodIn wsX6_anHour wsX6_comes := goodIn_r _ [16, 4, 5, 6, 7, 8, 9, 10, 17, 18, 19, 15, 20, 2, 21, 22, 23, 24, 11, 25, 26, 27, 28, 55, 56, 57, 58, 59, 60, 61, 62, 63, 64, 65, 66, 67, 68, 69, 70, 71] (by decide +kernel) (by decide +kernel)
set_option maxRecDepth 20000 in
theorem gX6_anHour_X6_comes : GoodIn wsX6_anHour (wsV RX6 127 RX6 yX6_comes wsX6_comes) := goodIn_app (goodIn_of _ (by decide +kernel)) ggX6_anHour_X6_comes
set_option maxRecDepth 20000 in
theorem ggX6_anHour_X6_takesOwn : GoodIn wsX6_anHour wsX6_takesOwn := goodIn_r _ [32, 1, 8, 9, 6, 10, 4, 5, 7, 33, 34, 35, 15, 36, 2, 17, 18, 19, 20, 25, 26, 27, 28, 55, 56, 57, 58, 59, 60, 61, 62, 63, 64, 65, 66, 67, 68, 69, 70, 71] (by decide +kernel) (by decide +kernel)
set_option maxRecDepth 20000 in
theorem gX6_anHour_X6_takesOwn : GoodIn wsX6_anHour (wsV RX6 135 RX6 yX6_takesOwn wsX6_takesOwn) := goodIn_app (goodIn_of _ (by decide +kernel)) ggX6_anHour_X6_takesOwn
set_option maxRecDepth 20000 in
theorem ggX6_anHour_X6_its : GoodIn wsX6_anHour wsX6_its := goodIn_r _ [20, 2, 55, 56, 57, 58, 59, 60, 61, 62, 63, 64, 65, 66, 67, 68, 69, 70, 71] (by decide +kernel) (by decide +kernel)
set_option maxRecDepth 20000 in
theorem gX6_anHour_X6_its : GoodIn wsX6_anHour (wsV RX6 64 RX6 yX6_its wsX6_its) := goodIn_app (goodIn_of _ (by decide +kernel)) ggX6_anHour_X6_its
set_option maxRecDepth 20000 in
theorem ggX6_anHour_X6_keeps : GoodIn wsX6_anHour wsX6_keeps := goodIn_r _ [40, 17, 18, 19, 15, 20, 2, 55, 56, 57, 58, 59, 60, 61, 62, 63, 64, 65, 66, 67, 68, 69, 70, 71] (by decide +kernel) (by decide +kernel)
set_option maxRecDepth 20000 in
theorem gX6_anHour_X6_keeps : GoodIn wsX6_anHour (wsV RX6 104 RX6 yX6_keeps wsX6_keeps) := goodIn_app (goodIn_of _ (by decide +kernel)) ggX6_anHour_X6_keeps
set_option maxRecDepth 20000 in
theorem ggX6_anHour_X6_sets : GoodIn wsX6_anHour wsX6_sets := goodIn_r _ [28, 2, 55, 56, 57, 58, 59, 60, 61, 62, 63, 64, 65, 66, 67, 68, 69, 70, 71] (by decide +kernel) (by decide +kernel)
set_option maxRecDepth 20000 in
theorem gX6_anHour_X6_sets : GoodIn wsX6_anHour (wsV RX6 43 RX6 yX6_sets wsX6_sets) := goodIn_app (goodIn_of _ (by decide +kernel)) ggX6_anHour_X6_sets
set_option maxRecDepth 20000 in
theorem ggX6_anHour_X6_loses : GoodIn wsX6_anHour wsX6_loses := goodIn_r _ [44, 17, 18, 19, 15, 20, 2, 45, 46, 47, 48, 49, 50, 55, 56, 57, 58, 59, 60, 61, 62, 63, 64, 65, 66, 67, 68, 69, 70, 71] (by decide +kernel) (by decide +kernel)
set_option maxRecDepth 20000 in
theorem gX6_anHour_X6_loses : GoodIn wsX6_anHour (wsV RX6 107 RX6 yX6_loses wsX6_loses) := goodIn_app (goodIn_of _ (by decide +kernel)) ggX6_anHour_X6_loses
set_option maxRecDepth 20000 in
theorem ggX6_anHour_X6_lost : GoodIn wsX6_anHour wsX6_lost := goodIn_r _ [24, 2, 11, 8, 9, 6, 10, 55, 56, 57, 58, 59, 60, 61, 62, 63, 64, 65, 66, 67, 68, 69, 70, 71] (by decide +kernel) (by decide +kernel)
set_option maxRecDepth 20000 in
theorem gX6_anHour_X6_lost : GoodIn wsX6_anHour (wsV RX6 123 RX6 yX6_lost wsX6_lost) := goodIn_app (goodIn_of _ (by decide +kernel)) ggX6_anHour_X6_lost
set_option maxRecDepth 20000 in
theorem ggX6_anHour_X6_leads : GoodIn wsX6_anHour wsX6_leads := goodIn_r _ [54, 17, 18, 19, 15, 20, 2, 55, 56, 57, 58, 59, 60, 61, 62, 63, 64, 65, 66, 67, 68, 69, 70, 71] (by decide +kernel) (by decide +kernel)
set_option maxRecDepth 20000 in
theorem gX6_anHour_X6_leads : GoodIn wsX6_anHour (wsV RX6 110 RX6 yX6_leads wsX6_leads) := goodIn_app (goodIn_of _ (by decide +kernel)) ggX6_anHour_X6_leads
theorem dX6_anHour_0 : decode cX6_anHour 0 = .ok (.aload_n 0, 1) := by decide +kernel
theorem dX6_anHour_1 : decode cX6_anHour 1 = .ok (.iconst 0, 1) := by decide +kernel
theorem dX6_anHour_2 : decode cX6_anHour 2 = .ok (.putfield 131, 3) := by decide +kernel
theorem dX6_anHour_5 : decode cX6_anHour 5 = .ok (.aload_n 0, 1) := by decide +kernel
theorem dX6_anHour_6 : decode cX6_anHour 6 = .ok (.iconst 0, 1) := by decide +kernel
theorem dX6_anHour_7 : decode cX6_anHour 7 = .ok (.aload_n 0, 1) := by decide +kernel
theorem dX6_anHour_8 : decode cX6_anHour 8 = .ok (.getfield 9, 3) := by decide +kernel
theorem dX6_anHour_11 : decode cX6_anHour 11 = .ok (.iconst 2, 1) := by decide +kernel
theorem dX6_anHour_12 : decode cX6_anHour 12 = .ok (.iaload, 1) := by decide +kernel
theorem dX6_anHour_13 : decode cX6_anHour 13 = .ok (.invokevirtual 127, 3) := by decide +kernel
theorem dX6_anHour_16 : decode cX6_anHour 16 = .ok (.iconst 0, 1) := by decide +kernel
theorem dX6_anHour_17 : decode cX6_anHour 17 = .ok (.istore_n 1, 1) := by decide +kernel
theorem dX6_anHour_18 : decode cX6_anHour 18 = .ok (.iload_n 1, 1) := by decide +kernel
theorem dX6_anHour_19 : decode cX6_anHour 19 = .ok (.bipush 11, 2) := by decide +kernel
theorem dX6_anHour_21 : decode cX6_anHour 21 = .ok (.if_icmp .ge 14, 3) := by decide +kernel
theorem dX6_anHour_24 : decode cX6_anHour 24 = .ok (.aload_n 0, 1) := by decide +kernel
theorem dX6_anHour_25 : decode cX6_anHour 25 = .ok (.iload_n 1, 1) := by decide +kernel
theorem dX6_anHour_26 : decode cX6_anHour 26 = .ok (.invokevirtual 135, 3) := by decide +kernel
theorem dX6_anHour_29 : decode cX6_anHour 29 = .ok (.iinc 1 1, 3) := by decide +kernel
theorem dX6_anHour_32 : decode cX6_anHour 32 = .ok (.goto (-14), 3) := by decide +kernel
theorem dX6_anHour_35 : decode cX6_anHour 35 = .ok (.iconst 0, 1) := by decide +kernel
theorem dX6_anHour_36 : decode cX6_anHour 36 = .ok (.istore_n 1, 1) := by decide +kernel
theorem dX6_anHour_37 : decode cX6_anHour 37 = .ok (.iload_n 1, 1) := by decide +kernel
theorem dX6_anHour_38 : decode cX6_anHour 38 = .ok (.bipush 11, 2) := by decide +kernel
theorem dX6_anHour_40 : decode cX6_anHour 40 = .ok (.if_icmp .ge 50, 3) := by decide +kernel
theorem dX6_anHour_43 : decode cX6_anHour 43 = .ok (.aload_n 0, 1) := by decide +kernel
theorem dX6_anHour_44 : decode cX6_anHour 44 = .ok (.getfield 22, 3) := by decide +kernel
theorem dX6_anHour_47 : decode cX6_anHour 47 = .ok (.iload_n 1, 1) := by decide +kernel
theorem dX6_anHour_48 : decode cX6_anHour 48 = .ok (.iconst 0, 1) := by decide +kernel
theorem dX6_anHour_49 : decode cX6_anHour 49 = .ok (.aload_n 0, 1) := by decide +kernel
theorem dX6_anHour_50 : decode cX6_anHour 50 = .ok (.iload_n 1, 1) := by decide +kernel
theorem dX6_anHour_51 : decode cX6_anHour 51 = .ok (.iconst 1, 1) := by decide +kernel
theorem dX6_anHour_52 : decode cX6_anHour 52 = .ok (.invokevirtual 64, 3) := by decide +kernel
theorem dX6_anHour_55 : decode cX6_anHour 55 = .ok (.aload_n 0, 1) := by decide +kernel
theorem dX6_anHour_56 : decode cX6_anHour 56 = .ok (.iload_n 1, 1) := by decide +kernel
theorem dX6_anHour_57 : decode cX6_anHour 57 = .ok (.invokevirtual 104, 3) := by decide +kernel
theorem dX6_anHour_60 : decode cX6_anHour 60 = .ok (.isub, 1) := by decide +kernel
theorem dX6_anHour_61 : decode cX6_anHour 61 = .ok (.invokestatic 68, 3) := by decide +kernel
theorem dX6_anHour_64 : decode cX6_anHour 64 = .ok (.iastore, 1) := by decide +kernel
theorem dX6_anHour_65 : decode cX6_anHour 65 = .ok (.aload_n 0, 1) := by decide +kernel
theorem dX6_anHour_66 : decode cX6_anHour 66 = .ok (.iload_n 1, 1) := by decide +kernel
theorem dX6_anHour_67 : decode cX6_anHour 67 = .ok (.iconst 1, 1) := by decide +kernel
theorem dX6_anHour_68 : decode cX6_anHour 68 = .ok (.aload_n 0, 1) := by decide +kernel
theorem dX6_anHour_69 : decode cX6_anHour 69 = .ok (.iload_n 1, 1) := by decide +kernel
theorem dX6_anHour_70 : decode cX6_anHour 70 = .ok (.iconst 1, 1) := by decide +kernel
theorem dX6_anHour_71 : decode cX6_anHour 71 = .ok (.invokevirtual 64, 3) := by decide +kernel
theorem dX6_anHour_74 : decode cX6_anHour 74 = .ok (.aload_n 0, 1) := by decide +kernel
theorem dX6_anHour_75 : decode cX6_anHour 75 = .ok (.getfield 22, 3) := by decide +kernel
theorem dX6_anHour_78 : decode cX6_anHour 78 = .ok (.iload_n 1, 1) := by decide +kernel
theorem dX6_anHour_79 : decode cX6_anHour 79 = .ok (.iaload, 1) := by decide +kernel
theorem dX6_anHour_80 : decode cX6_anHour 80 = .ok (.isub, 1) := by decide +kernel
theorem dX6_anHour_81 : decode cX6_anHour 81 = .ok (.invokevirtual 43, 3) := by decide +kernel
theorem dX6_anHour_84 : decode cX6_anHour 84 = .ok (.iinc 1 1, 3) := by decide +kernel
theorem dX6_anHour_87 : decode cX6_anHour 87 = .ok (.goto (-50), 3) := by decide +kernel
theorem dX6_anHour_90 : decode cX6_anHour 90 = .ok (.iconst 0, 1) := by decide +kernel
theorem dX6_anHour_91 : decode cX6_anHour 91 = .ok (.istore_n 1, 1) := by decide +kernel
theorem dX6_anHour_92 : decode cX6_anHour 92 = .ok (.iload_n 1, 1) := by decide +kernel
theorem dX6_anHour_93 : decode cX6_anHour 93 = .ok (.bipush 11, 2) := by decide +kernel
theorem dX6_anHour_95 : decode cX6_anHour 95 = .ok (.if_icmp .ge 83, 3) := by decide +kernel
theorem dX6_anHour_98 : decode cX6_anHour 98 = .ok (.aload_n 0, 1) := by decide +kernel
theorem dX6_anHour_99 : decode cX6_anHour 99 = .ok (.getfield 22, 3) := by decide +kernel
theorem dX6_anHour_102 : decode cX6_anHour 102 = .ok (.iload_n 1, 1) := by decide +kernel
theorem dX6_anHour_103 : decode cX6_anHour 103 = .ok (.iaload, 1) := by decide +kernel
theorem dX6_anHour_104 : decode cX6_anHour 104 = .ok (.aload_n 0, 1) := by decide +kernel
theorem dX6_anHour_105 : decode cX6_anHour 105 = .ok (.iload_n 1, 1) := by decide +kernel

theorem dX4_nextToken_23 : decode cX4_nextToken 23 = .ok (.getfield 9, 3) := by decide +kernel
theorem dX4_nextToken_26 : decode cX4_nextToken 26 = .ok (.getfield 116, 3) := by decide +kernel
theorem dX4_nextToken_29 : decode cX4_nextToken 29 = .ok (.aload_n 0, 1) := by decide +kernel
theorem dX4_nextToken_30 : decode cX4_nextToken 30 = .ok (.getfield 31, 3) := by decide +kernel
theorem dX4_nextToken_33 : decode cX4_nextToken 33 = .ok (.iaload, 1) := by decide +kernel
theorem dX4_nextToken_34 : decode cX4_nextToken 34 = .ok (.bipush 32, 2) := by decide +kernel
theorem dX4_nextToken_36 : decode cX4_nextToken 36 = .ok (.if_icmp .ne 16, 3) := by decide +kernel
theorem dX4_nextToken_39 : decode cX4_nextToken 39 = .ok (.aload_n 0, 1) := by decide +kernel
theorem dX4_nextToken_40 : decode cX4_nextToken 40 = .ok (.dup, 1) := by decide +kernel
theorem dX4_nextToken_41 : decode cX4_nextToken 41 = .ok (.getfield 31, 3) := by decide +kernel
theorem dX4_nextToken_44 : decode cX4_nextToken 44 = .ok (.iconst 1, 1) := by decide +kernel
theorem dX4_nextToken_45 : decode cX4_nextToken 45 = .ok (.iadd, 1) := by decide +kernel
theorem dX4_nextToken_46 : decode cX4_nextToken 46 = .ok (.putfield 31, 3) := by decide +kernel
theorem dX4_nextToken_49 : decode cX4_nextToken 49 = .ok (.goto (-41), 3) := by decide +kernel
theorem dX4_nextToken_52 : decode cX4_nextToken 52 = .ok (.aload_n 0, 1) := by decide +kernel
theorem dX4_nextToken_53 : decode cX4_nextToken 53 = .ok (.aload_n 0, 1) := by decide +kernel
theorem dX4_nextToken_54 : decode cX4_nextToken 54 = .ok (.getfield 31, 3) := by decide +kernel
theorem dX4_nextToken_57 : decode cX4_nextToken 57 = .ok (.putfield 15, 3) := by decide +kernel
theorem dX4_nextToken_60 : decode cX4_nextToken 60 = .ok (.aload_n 0, 1) := by decide +kernel
theorem dX4_nextToken_61 : decode cX4_nextToken 61 = .ok (.getfield 31, 3) := by decide +kernel
theorem dX4_nextToken_64 : decode cX4_nextToken 64 = .ok (.aload_n 0, 1) := by decide +kernel
theorem dX4_nextToken_65 : decode cX4_nextToken 65 = .ok (.getfield 9, 3) := by decide +kernel
theorem dX4_nextToken_68 : decode cX4_nextToken 68 = .ok (.getfield 123, 3) := by decide +kernel
theorem dX4_nextToken_71 : decode cX4_nextToken 71 = .ok (.if_icmp .lt 11, 3) := by decide +kernel
theorem dX4_nextToken_74 : decode cX4_nextToken 74 = .ok (.aload_n 0, 1) := by decide +kernel
theorem dX4_nextToken_75 : decode cX4_nextToken 75 = .ok (.iconst 0, 1) := by decide +kernel
theorem dX4_nextToken_76 : decode cX4_nextToken 76 = .ok (.putfield 26, 3) := by decide +kernel
theorem dX4_nextToken_79 : decode cX4_nextToken 79 = .ok (.goto 89, 3) := by decide +kernel
theorem dX4_nextToken_82 : decode cX4_nextToken 82 = .ok (.aload_n 0, 1) := by decide +kernel
theorem dX4_nextToken_83 : decode cX4_nextToken 83 = .ok (.getfield 9, 3) := by decide +kernel
theorem dX4_nextToken_86 : decode cX4_nextToken 86 = .ok (.aload_n 0, 1) := by decide +kernel
theorem dX4_nextToken_87 : decode cX4_nextToken 87 = .ok (.getfield 31, 3) := by decide +kernel
theorem dX4_nextToken_90 : decode cX4_nextToken 90 = .ok (.bipush 97, 2) := by decide +kernel
theorem dX4_nextToken_92 : decode cX4_nextToken 92 = .ok (.bipush 122, 2) := by decide +kernel
theorem dX4_nextToken_94 : decode cX4_nextToken 94 = .ok (.invokevirtual 126, 3) := by decide +kernel
theorem dX4_nextToken_97 : decode cX4_nextToken 97 = .ok (.ifCond .eq 10, 3) := by decide +kernel
theorem dX4_nextToken_100 : decode cX4_nextToken 100 = .ok (.aload_n 0, 1) := by decide +kernel
theorem dX4_nextToken_101 : decode cX4_nextToken 101 = .ok (.invokevirtual 130, 3) := by decide +kernel
theorem dX4_nextToken_104 : decode cX4_nextToken 104 = .ok (.goto 64, 3) := by decide +kernel
theorem dX4_nextToken_107 : decode cX4_nextToken 107 = .ok (.aload_n 0, 1) := by decide +kernel
theorem dX4_nextToken_108 : decode cX4_nextToken 108 = .ok (.getfield 9, 3) := by decide +kernel
theorem dX4_nextToken_111 : decode cX4_nextToken 111 = .ok (.aload_n 0, 1) := by decide +kernel
theorem dX4_nextToken_112 : decode cX4_nextToken 112 = .ok (.getfield 31, 3) := by decide +kernel
theorem dX4_nextToken_115 : decode cX4_nextToken 115 = .ok (.bipush 48, 2) := by decide +kernel
theorem dX4_nextToken_117 : decode cX4_nextToken 117 = .ok (.bipush 57, 2) := by decide +kernel
theorem dX4_nextToken_119 : decode cX4_nextToken 119 = .ok (.invokevirtual 126, 3) := by decide +kernel
theorem dX4_nextToken_122 : decode cX4_nextToken 122 = .ok (.ifCond .eq 10, 3) := by decide +kernel
theorem dX4_nextToken_125 : decode cX4_nextToken 125 = .ok (.aload_n 0, 1) := by decide +kernel
theorem dX4_nextToken_126 : decode cX4_nextToken 126 = .ok (.invokevirtual 133, 3) := by decide +kernel
theorem dX4_nextToken_129 : decode cX4_nextToken 129 = .ok (.goto 39, 3) := by decide +kernel
theorem dX4_nextToken_132 : decode cX4_nextToken 132 = .ok (.aload_n 0, 1) := by decide +kernel
theorem dX4_nextToken_133 : decode cX4_nextToken 133 = .ok (.aload_n 0, 1) := by decide +kernel
theorem dX4_nextToken_134 : decode cX4_nextToken 134 = .ok (.getfield 9, 3) := by decide +kernel
theorem dX4_nextToken_137 : decode cX4_nextToken 137 = .ok (.getfield 116, 3) := by decide +kernel
theorem dX4_nextToken_140 : decode cX4_nextToken 140 = .ok (.aload_n 0, 1) := by decide +kernel
theorem dX4_nextToken_141 : decode cX4_nextToken 141 = .ok (.getfield 31, 3) := by decide +kernel
theorem dX4_nextToken_144 : decode cX4_nextToken 144 = .ok (.iaload, 1) := by decide +kernel
theorem dX4_nextToken_145 : decode cX4_nextToken 145 = .ok (.bipush 59, 2) := by decide +kernel
theorem dX4_nextToken_147 : decode cX4_nextToken 147 = .ok (.if_icmp .ne 7, 3) := by decide +kernel
theorem dX4_nextToken_150 : decode cX4_nextToken 150 = .ok (.iconst 3, 1) := by decide +kernel
theorem dX4_nextToken_151 : decode cX4_nextToken 151 = .ok (.goto 4, 3) := by decide +kernel
theorem dX4_nextToken_154 : decode cX4_nextToken 154 = .ok (.iconst 4, 1) := by decide +kernel
theorem dX4_nextToken_155 : decode cX4_nextToken 155 = .ok (.putfield 26, 3) := by decide +kernel
theorem dX4_nextToken_158 : decode cX4_nextToken 158 = .ok (.aload_n 0, 1) := by decide +kernel
theorem dX4_nextToken_159 : decode cX4_nextToken 159 = .ok (.aload_n 0, 1) := by decide +kernel
theorem dX4_nextToken_160 : decode cX4_nextToken 160 = .ok (.getfield 31, 3) := by decide +kernel
theorem dX4_nextToken_163 : decode cX4_nextToken 163 = .ok (.iconst 1, 1) := by decide +kernel
theorem dX4_nextToken_164 : decode cX4_nextToken 164 = .ok (.iadd, 1) := by decide +kernel
theorem dX4_nextToken_165 : decode cX4_nextToken 165 = .ok (.putfield 15, 3) := by decide +kernel
theorem dX4_nextToken_168 : decode cX4_nextToken 168 = .ok (.return_, 1) := by decide +kernel
set_option maxRecDepth 20000 in
theorem ggX4_readWord_X3_isBetween : GoodIn wsX4_readWord wsX3_isBetween := goodIn_r _ [9, 10, 11, 17, 18] (by decide +kernel) (by decide +kernel)
set_option maxRecDepth 20000 in
theorem gX4_readWord_X3_isBetween : GoodIn wsX4_readWord (wsV RX4 126 RX3 yX3_isBetween wsX3_isBetween) := goodIn_app (goodIn_of _ (by decide +kernel)) ggX4_readWord_X3_isBetween
theorem dX4_readWord_0 : decode cX4_readWord 0 = .ok (.aload_n 0, 1) := by decide +kernel
theorem dX4_readWord_1 : decode cX4_readWord 1 = .ok (.iconst 1, 1) := by decide +kernel
theorem dX4_readWord_2 : decode cX4_readWord 2 = .ok (.putfield 26, 3) := by decide +kernel
theorem dX4_readWord_5 : decode cX4_readWord 5 = .ok (.aload_n 0, 1) := by decide +kernel
theorem dX4_readWord_6 : decode cX4_readWord 6 = .ok (.getfield 15, 3) := by decide +kernel
theorem dX4_readWord_9 : decode cX4_readWord 9 = .ok (.aload_n 0, 1) := by decide +kernel
theorem dX4_readWord_10 : decode cX4_readWord 10 = .ok (.getfield 9, 3) := by decide +kernel
theorem dX4_readWord_13 : decode cX4_readWord 13 = .ok (.getfield 123, 3) := by decide +kernel
theorem dX4_readWord_16 : decode cX4_readWord 16 = .ok (.if_icmp .ge 34, 3) := by decide +kernel
theorem dX4_readWord_19 : decode cX4_readWord 19 = .ok (.aload_n 0, 1) := by decide +kernel
theorem dX4_readWord_20 : decode cX4_readWord 20 = .ok (.getfield 9, 3) := by decide +kernel
theorem dX4_readWord_23 : decode cX4_readWord 23 = .ok (.aload_n 0, 1) := by decide +kernel
theorem dX4_readWord_24 : decode cX4_readWord 24 = .ok (.getfield 15, 3) := by decide +kernel
theorem dX4_readWord_27 : decode cX4_readWord 27 = .ok (.bipush 97, 2) := by decide +kernel
theorem dX4_readWord_29 : decode cX4_readWord 29 = .ok (.bipush 122, 2) := by decide +kernel
theorem dX4_readWord_31 : decode cX4_readWord 31 = .ok (.invokevirtual 126, 3) := by decide +kernel
theorem dX4_readWord_34 : decode cX4_readWord 34 = .ok (.ifCond .eq 16, 3) := by decide +kernel
theorem dX4_readWord_37 : decode cX4_readWord 37 = .ok (.aload_n 0, 1) := by decide +kernel
theorem dX4_readWord_38 : decode cX4_readWord 38 = .ok (.dup, 1) := by decide +kernel
theorem dX4_readWord_39 : decode cX4_readWord 39 = .ok (.getfield 15, 3) := by decide +kernel
theorem dX4_readWord_42 : decode cX4_readWord 42 = .ok (.iconst 1, 1) := by decide +kernel
theorem dX4_readWord_43 : decode cX4_readWord 43 = .ok (.iadd, 1) := by decide +kernel
theorem dX4_readWord_44 : decode cX4_readWord 44 = .ok (.putfield 15, 3) := by decide +kernel
theorem dX4_readWord_47 : decode cX4_readWord 47 = .ok (.goto (-42), 3) := by decide +kernel
theorem dX4_readWord_50 : decode cX4_readWord 50 = .ok (.return_, 1) := by decide +kernel
set_option maxRecDepth 20000 in
theorem ggX4_readNumber_X3_isBetween : GoodIn wsX4_readNumber wsX3_isBetween := goodIn_r _ [15, 16, 17, 23, 24] (by decide +kernel) (by decide +kernel)
set_option maxRecDepth 20000 in
theorem gX4_readNumber_X3_isBetween : GoodIn wsX4_readNumber (wsV RX4 126 RX3 yX3_isBetween wsX3_isBetween) := goodIn_app (goodIn_of _ (by decide +kernel)) ggX4_readNumber_X3_isBetween
theorem dX4_readNumber_0 : decode cX4_readNumber 0 = .ok (.aload_n 0, 1) := by decide +kernel
theorem dX4_readNumber_1 : decode cX4_readNumber 1 = .ok (.iconst 2, 1) := by decide +kernel
theorem dX4_readNumber_2 : decode cX4_readNumber 2 = .ok (.putfield 26, 3) := by decide +kernel
theorem dX4_readNumber_5 : decode cX4_readNumber 5 = .ok (.aload_n 0, 1) := by decide +kernel
theorem dX4_readNumber_6 : decode cX4_readNumber 6 = .ok (.iconst 0, 1) := by decide +kernel
theorem dX4_readNumber_7 : decode cX4_readNumber 7 = .ok (.putfield 51, 3) := by decide +kernel
theorem dX4_readNumber_10 : decode cX4_readNumber 10 = .ok (.aload_n 0, 1) := by decide +kernel
theorem dX4_readNumber_11 : decode cX4_readNumber 11 = .ok (.getfield 15, 3) := by decide +kernel
theorem dX4_readNumber_14 : decode cX4_readNumber 14 = .ok (.aload_n 0, 1) := by decide +kernel
theorem dX4_readNumber_15 : decode cX4_readNumber 15 = .ok (.getfield 9, 3) := by decide +kernel
theorem dX4_readNumber_18 : decode cX4_readNumber 18 = .ok (.getfield 123, 3) := by decide +kernel
theorem dX4_readNumber_21 : decode cX4_readNumber 21 = .ok (.if_icmp .ge 67, 3) := by decide +kernel
theorem dX4_readNumber_24 : decode cX4_readNumber 24 = .ok (.aload_n 0, 1) := by decide +kernel
theorem dX4_readNumber_25 : decode cX4_readNumber 25 = .ok (.getfield 9, 3) := by decide +kernel
theorem dX4_readNumber_28 : decode cX4_readNumber 28 = .ok (.aload_n 0, 1) := by decide +kernel
theorem dX4_readNumber_29 : decode cX4_readNumber 29 = .ok (.getfield 15, 3) := by decide +kernel
theorem dX4_readNumber_32 : decode cX4_readNumber 32 = .ok (.bipush 48, 2) := by decide +kernel
theorem dX4_readNumber_34 : decode cX4_readNumber 34 = .ok (.bipush 57, 2) := by decide +kernel
theorem dX4_readNumber_36 : decode cX4_readNumber 36 = .ok (.invokevirtual 126, 3) := by decide +kernel
theorem dX4_readNumber_39 : decode cX4_readNumber 39 = .ok (.ifCond .eq 49, 3) := by decide +kernel
theorem dX4_readNumber_42 : decode cX4_readNumber 42 = .ok (.aload_n 0, 1) := by decide +kernel
theorem dX4_readNumber_43 : decode cX4_readNumber 43 = .ok (.sipush 10000, 3) := by decide +kernel
theorem dX4_readNumber_46 : decode cX4_readNumber 46 = .ok (.aload_n 0, 1) := by decide +kernel
theorem dX4_readNumber_47 : decode cX4_readNumber 47 = .ok (.getfield 51, 3) := by decide +kernel
theorem dX4_readNumber_50 : decode cX4_readNumber 50 = .ok (.bipush 10, 2) := by decide +kernel
theorem dX4_readNumber_52 : decode cX4_readNumber 52 = .ok (.imul, 1) := by decide +kernel
theorem dX4_readNumber_53 : decode cX4_readNumber 53 = .ok (.aload_n 0, 1) := by decide +kernel
theorem dX4_readNumber_54 : decode cX4_readNumber 54 = .ok (.getfield 9, 3) := by decide +kernel
theorem dX4_readNumber_57 : decode cX4_readNumber 57 = .ok (.getfield 116, 3) := by decide +kernel
theorem dX4_readNumber_60 : decode cX4_readNumber 60 = .ok (.aload_n 0, 1) := by decide +kernel
theorem dX4_readNumber_61 : decode cX4_readNumber 61 = .ok (.getfield 15, 3) := by decide +kernel
theorem dX4_readNumber_64 : decode cX4_readNumber 64 = .ok (.iaload, 1) := by decide +kernel
theorem dX4_readNumber_65 : decode cX4_readNumber 65 = .ok (.iadd, 1) := by decide +kernel
theorem dX4_readNumber_66 : decode cX4_readNumber 66 = .ok (.bipush 48, 2) := by decide +kernel
theorem dX4_readNumber_68 : decode cX4_readNumber 68 = .ok (.isub, 1) := by decide +kernel
theorem dX4_readNumber_69 : decode cX4_readNumber 69 = .ok (.invokestatic 136, 3) := by decide +kernel
theorem dX4_readNumber_72 : decode cX4_readNumber 72 = .ok (.putfield 51, 3) := by decide +kernel
theorem dX4_readNumber_75 : decode cX4_readNumber 75 = .ok (.aload_n 0, 1) := by decide +kernel
theorem dX4_readNumber_76 : decode cX4_readNumber 76 = .ok (.dup, 1) := by decide +kernel
theorem dX4_readNumber_77 : decode cX4_readNumber 77 = .ok (.getfield 15, 3) := by decide +kernel
theorem dX4_readNumber_80 : decode cX4_readNumber 80 = .ok (.iconst 1, 1) := by decide +kernel
theorem dX4_readNumber_81 : decode cX4_readNumber 81 = .ok (.iadd, 1) := by decide +kernel
theorem dX4_readNumber_82 : decode cX4_readNumber 82 = .ok (.putfield 15, 3) := by decide +kernel
theorem dX4_readNumber_85 : decode cX4_readNumber 85 = .ok (.goto (-75), 3) := by decide +kernel
theorem dX4_readNumber_88 : decode cX4_readNumber 88 = .ok (.return_, 1) := by decide +kernel
set_option maxRecDepth 20000 in
theorem ggX5_init_X1_init : GoodIn wsX5_init wsX1_init := goodIn_r _ [27, 28, 2, 3, 10, 29, 30, 31, 32, 33, 34, 35, 36, 37, 38, 39, 40, 41, 55, 56, 57, 58, 59, 60, 61, 62, 63, 64, 65, 66] (by decide +kernel) (by decide +kernel)
set_option maxRecDepth 20000 in
theorem gX5_init_X1_init : GoodIn wsX5_init (wsX1_init) := ggX5_init_X1_init
set_option maxRecDepth 20000 in
theorem ggX5_init_X3_init : GoodIn wsX5_init wsX3_init := goodIn_r _ [43, 44, 2, 3, 10, 45, 76, 77] (by decide +kernel) (by decide +kernel)
set_option maxRecDepth 20000 in
theorem gX5_init_X3_init_n28 : GoodIn wsX5_init (wsX3_init) := ggX5_init_X3_init
set_option maxRecDepth 20000 in
theorem ggX5_init_X4_init : GoodIn wsX5_init wsX4_init := goodIn_r _ [48, 49, 2, 3, 50, 78, 79, 80, 81, 82] (by decide +kernel) (by decide +kernel)
set_option maxRecDepth 20000 in
theorem gX5_init_X4_init : GoodIn wsX5_init (wsX4_init) := ggX5_init_X4_init
set_option maxRecDepth 20000 in
theorem ggX5_init_X2_init : GoodIn wsX5_init wsX2_init := goodIn_r _ [52, 53, 2, 3, 10, 54, 83, 84, 85] (by decide +kernel) (by decide +kernel)
set_option maxRecDepth 20000 in
theorem gX5_init_X2_init_n51 : GoodIn wsX5_init (wsX2_init) := ggX5_init_X2_init
theorem dX5_init_0 : decode cX5_init 0 = .ok (.aload_n 0, 1) := by decide +kernel
theorem dX5_init_1 : decode cX5_init 1 = .ok (.invokespecial 1, 3) := by decide +kernel
theorem dX5_init_4 : decode cX5_init 4 = .ok (.aload_n 0, 1) := by decide +kernel
theorem dX5_init_5 : decode cX5_init 5 = .ok (.new 7, 3) := by decide +kernel
theorem dX5_init_8 : decode cX5_init 8 = .ok (.dup, 1) := by decide +kernel
theorem dX5_init_9 : decode cX5_init 9 = .ok (.invokespecial 9, 3) := by decide +kernel
theorem dX5_init_12 : decode cX5_init 12 = .ok (.putfield 10, 3) := by decide +kernel
theorem dX5_init_15 : decode cX5_init 15 = .ok (.aload_n 0, 1) := by decide +kernel
theorem dX5_init_16 : decode cX5_init 16 = .ok (.new 7, 3) := by decide +kernel
theorem dX5_init_19 : decode cX5_init 19 = .ok (.dup, 1) := by decide +kernel
theorem dX5_init_20 : decode cX5_init 20 = .ok (.invokespecial 9, 3) := by decide +kernel
theorem dX5_init_23 : decode cX5_init 23 = .ok (.putfield 16, 3) := by decide +kernel
theorem dX5_init_26 : decode cX5_init 26 = .ok (.aload_n 0, 1) := by decide +kernel
theorem dX5_init_27 : decode cX5_init 27 = .ok (.new 7, 3) := by decide +kernel
theorem dX5_init_30 : decode cX5_init 30 = .ok (.dup, 1) := by decide +kernel
theorem dX5_init_31 : decode cX5_init 31 = .ok (.invokespecial 9, 3) := by decide +kernel
theorem dX5_init_34 : decode cX5_init 34 = .ok (.putfield 19, 3) := by decide +kernel
theorem dX5_init_37 : decode cX5_init 37 = .ok (.aload_n 0, 1) := by decide +kernel
theorem dX5_init_38 : decode cX5_init 38 = .ok (.bipush 11, 2) := by decide +kernel
theorem dX5_init_40 : decode cX5_init 40 = .ok (.newarray .int, 2) := by decide +kernel
theorem dX5_init_42 : decode cX5_init 42 = .ok (.putfield 22, 3) := by decide +kernel
theorem dX5_init_45 : decode cX5_init 45 = .ok (.aload_n 0, 1) := by decide +kernel
theorem dX5_init_46 : decode cX5_init 46 = .ok (.new 26, 3) := by decide +kernel
theorem dX5_init_49 : decode cX5_init 49 = .ok (.dup, 1) := by decide +kernel
theorem dX5_init_50 : decode cX5_init 50 = .ok (.invokespecial 28, 3) := by decide +kernel
theorem dX5_init_53 : decode cX5_init 53 = .ok (.putfield 29, 3) := by decide +kernel
theorem dX5_init_56 : decode cX5_init 56 = .ok (.aload_n 0, 1) := by decide +kernel
theorem dX5_init_57 : decode cX5_init 57 = .ok (.new 33, 3) := by decide +kernel
theorem dX5_init_60 : decode cX5_init 60 = .ok (.dup, 1) := by decide +kernel
theorem dX5_init_61 : decode cX5_init 61 = .ok (.aload_n 0, 1) := by decide +kernel
theorem dX5_init_62 : decode cX5_init 62 = .ok (.getfield 29, 3) := by decide +kernel
theorem dX5_init_65 : decode cX5_init 65 = .ok (.invokespecial 35, 3) := by decide +kernel
theorem dX5_init_68 : decode cX5_init 68 = .ok (.putfield 38, 3) := by decide +kernel
theorem dX5_init_71 : decode cX5_init 71 = .ok (.aload_n 0, 1) := by decide +kernel
theorem dX5_init_72 : decode cX5_init 72 = .ok (.iconst 4, 1) := by decide +kernel
theorem dX5_init_73 : decode cX5_init 73 = .ok (.anewarray 42, 3) := by decide +kernel
theorem dX5_init_76 : decode cX5_init 76 = .ok (.putfield 44, 3) := by decide +kernel
theorem dX5_init_79 : decode cX5_init 79 = .ok (.aload_n 0, 1) := by decide +kernel
theorem dX5_init_80 : decode cX5_init 80 = .ok (.bipush 7, 2) := by decide +kernel
theorem dX5_init_82 : decode cX5_init 82 = .ok (.newarray .int, 2) := by decide +kernel
theorem dX5_init_84 : decode cX5_init 84 = .ok (.putfield 48, 3) := by decide +kernel
theorem dX5_init_87 : decode cX5_init 87 = .ok (.iconst 0, 1) := by decide +kernel
theorem dX5_init_88 : decode cX5_init 88 = .ok (.istore_n 1, 1) := by decide +kernel
theorem dX5_init_89 : decode cX5_init 89 = .ok (.iload_n 1, 1) := by decide +kernel
theorem dX5_init_90 : decode cX5_init 90 = .ok (.iconst 4, 1) := by decide +kernel
theorem dX5_init_91 : decode cX5_init 91 = .ok (.if_icmp .ge 22, 3) := by decide +kernel
theorem dX5_init_94 : decode cX5_init 94 = .ok (.aload_n 0, 1) := by decide +kernel
theorem dX5_init_95 : decode cX5_init 95 = .ok (.getfield 44, 3) := by decide +kernel
theorem dX5_init_98 : decode cX5_init 98 = .ok (.iload_n 1, 1) := by decide +kernel
theorem dX5_init_99 : decode cX5_init 99 = .ok (.new 42, 3) := by decide +kernel
theorem dX5_init_102 : decode cX5_init 102 = .ok (.dup, 1) := by decide +kernel
theorem dX5_init_103 : decode cX5_init 103 = .ok (.invokespecial 51, 3) := by decide +kernel
theorem dX5_init_106 : decode cX5_init 106 = .ok (.aastore, 1) := by decide +kernel
theorem dX5_init_107 : decode cX5_init 107 = .ok (.iinc 1 1, 3) := by decide +kernel
theorem dX5_init_110 : decode cX5_init 110 = .ok (.goto (-21), 3) := by decide +kernel
theorem dX5_init_113 : decode cX5_init 113 = .ok (.return_, 1) := by decide +kernel
set_option maxRecDepth 20000 in
theorem ggX5_change_X5_isHouse : GoodIn wsX5_change wsX5_isHouse := goodIn_r _ [5, 6, 7, 4, 8] (by decide +kernel) (by decide +kernel)
set_option maxRecDepth 20000 in
theorem gX5_change_X5_isHouse : GoodIn wsX5_change (va_wsS RX5 52 yX5_isHouse wsX5_isHouse) := goodIn_app (goodIn_of _ (by decide +kernel)) ggX5_change_X5_isHouse
set_option maxRecDepth 20000 in
theorem ggX5_change_X5_isUpTo : GoodIn wsX5_change wsX5_isUpTo := goodIn_r _ [8] (by decide +kernel) (by decide +kernel)
set_option maxRecDepth 20000 in
theorem gX5_change_X5_isUpTo : GoodIn wsX5_change (va_wsS RX5 56 yX5_isUpTo wsX5_isUpTo) := goodIn_app (goodIn_of _ (by decide +kernel)) ggX5_change_X5_isUpTo
set_option maxRecDepth 20000 in
theorem ggX5_change_X5_mostOf : GoodIn wsX5_change wsX5_mostOf := goodIn_r _ [11] (by decide +kernel) (by decide +kernel)
set_option maxRecDepth 20000 in
theorem gX5_change_X5_mostOf : GoodIn wsX5_change (va_wsS RX5 60 yX5_mostOf wsX5_mostOf) := goodIn_app (goodIn_of _ (by decide +kernel)) ggX5_change_X5_mostOf
set_option maxRecDepth 20000 in
theorem ggX5_change_X5_tell : GoodIn wsX5_change wsX5_tell := goodIn_r _ [15, 16, 17, 29, 30, 31, 32, 33, 34, 35, 36, 37] (by decide +kernel) (by decide +kernel)
set_option maxRecDepth 20000 in
theorem gX5_change_X5_tell : GoodIn wsX5_change (wsV RX5 64 RX5 yX5_tell wsX5_tell) := goodIn_app (goodIn_of _ (by decide +kernel)) ggX5_change_X5_tell
set_option maxRecDepth 20000 in
theorem ggX5_change_X1_row : GoodIn wsX5_change wsX1_row := goodIn_r _ [22, 23, 24, 25, 26, 27, 28, 38, 39, 40, 41, 42, 43, 44, 45, 46, 47, 48, 49] (by decide +kernel) (by decide +kernel)
set_option maxRecDepth 20000 in
theorem gX5_change_X1_row : GoodIn wsX5_change (wsV RX5 67 RX1 yX1_row wsX1_row) := goodIn_app (goodIn_of _ (by decide +kernel)) ggX5_change_X1_row
theorem dX5_change_0 : decode cX5_change 0 = .ok (.iload_n 1, 1) := by decide +kernel
theorem dX5_change_1 : decode cX5_change 1 = .ok (.invokestatic 52, 3) := by decide +kernel
theorem dX5_change_4 : decode cX5_change 4 = .ok (.ifCond .eq 22, 3) := by decide +kernel
theorem dX5_change_7 : decode cX5_change 7 = .ok (.iload_n 2, 1) := by decide +kernel
theorem dX5_change_8 : decode cX5_change 8 = .ok (.iconst 5, 1) := by decide +kernel
theorem dX5_change_9 : decode cX5_change 9 = .ok (.invokestatic 56, 3) := by decide +kernel
theorem dX5_change_12 : decode cX5_change 12 = .ok (.ifCond .eq 14, 3) := by decide +kernel
theorem dX5_change_15 : decode cX5_change 15 = .ok (.iload_n 3, 1) := by decide +kernel
theorem dX5_change_16 : decode cX5_change 16 = .ok (.iload_n 2, 1) := by decide +kernel
theorem dX5_change_17 : decode cX5_change 17 = .ok (.invokestatic 60, 3) := by decide +kernel
theorem dX5_change_20 : decode cX5_change 20 = .ok (.invokestatic 56, 3) := by decide +kernel
theorem dX5_change_23 : decode cX5_change 23 = .ok (.ifCond .ne 9, 3) := by decide +kernel
theorem dX5_change_26 : decode cX5_change 26 = .ok (.aload_n 0, 1) := by decide +kernel
theorem dX5_change_27 : decode cX5_change 27 = .ok (.iconst 0, 1) := by decide +kernel
theorem dX5_change_28 : decode cX5_change 28 = .ok (.invokevirtual 64, 3) := by decide +kernel
theorem dX5_change_31 : decode cX5_change 31 = .ok (.ireturn, 1) := by decide +kernel
theorem dX5_change_32 : decode cX5_change 32 = .ok (.aload_n 0, 1) := by decide +kernel
theorem dX5_change_33 : decode cX5_change 33 = .ok (.getfield 10, 3) := by decide +kernel
theorem dX5_change_36 : decode cX5_change 36 = .ok (.iload_n 2, 1) := by decide +kernel
theorem dX5_change_37 : decode cX5_change 37 = .ok (.invokevirtual 67, 3) := by decide +kernel
theorem dX5_change_40 : decode cX5_change 40 = .ok (.astore 4, 2) := by decide +kernel
theorem dX5_change_42 : decode cX5_change 42 = .ok (.aload 4, 2) := by decide +kernel
theorem dX5_change_44 : decode cX5_change 44 = .ok (.iload_n 1, 1) := by decide +kernel
theorem dX5_change_45 : decode cX5_change 45 = .ok (.iaload, 1) := by decide +kernel
theorem dX5_change_46 : decode cX5_change 46 = .ok (.istore 5, 2) := by decide +kernel
theorem dX5_change_48 : decode cX5_change 48 = .ok (.aload 4, 2) := by decide +kernel
theorem dX5_change_50 : decode cX5_change 50 = .ok (.iload_n 1, 1) := by decide +kernel
theorem dX5_change_51 : decode cX5_change 51 = .ok (.iload_n 3, 1) := by decide +kernel
theorem dX5_change_52 : decode cX5_change 52 = .ok (.iastore, 1) := by decide +kernel
theorem dX5_change_53 : decode cX5_change 53 = .ok (.iload 5, 2) := by decide +kernel
theorem dX5_change_55 : decode cX5_change 55 = .ok (.ireturn, 1) := by decide +kernel
set_option maxRecDepth 20000 in
theorem ggX5_of_X5_isHouse : GoodIn wsX5_of wsX5_isHouse := goodIn_r _ [6, 7, 8, 5, 9] (by decide +kernel) (by decide +kernel)
set_option maxRecDepth 20000 in
theorem gX5_of_X5_isHouse : GoodIn wsX5_of (va_wsS RX5 52 yX5_isHouse wsX5_isHouse) := goodIn_app (goodIn_of _ (by decide +kernel)) ggX5_of_X5_isHouse
set_option maxRecDepth 20000 in
theorem ggX5_of_X5_isUpTo : GoodIn wsX5_of wsX5_isUpTo := goodIn_r _ [9] (by decide +kernel) (by decide +kernel)
set_option maxRecDepth 20000 in
theorem gX5_of_X5_isUpTo : GoodIn wsX5_of (va_wsS RX5 56 yX5_isUpTo wsX5_isUpTo) := goodIn_app (goodIn_of _ (by decide +kernel)) ggX5_of_X5_isUpTo
set_option maxRecDepth 20000 in
theorem ggX5_of_X5_tell : GoodIn wsX5_of wsX5_tell := goodIn_r _ [13, 14, 15, 54, 55, 56, 57, 58, 59, 60, 61, 62] (by decide +kernel) (by decide +kernel)
set_option maxRecDepth 20000 in
theorem gX5_of_X5_tell : GoodIn wsX5_of (wsV RX5 64 RX5 yX5_tell wsX5_tell) := goodIn_app (goodIn_of _ (by decide +kernel)) ggX5_of_X5_tell
set_option maxRecDepth 20000 in
theorem ggX5_of_X1_usesOf : GoodIn wsX5_of wsX1_usesOf := goodIn_r _ [20, 21, 22, 23, 24, 25, 26, 27, 28, 29, 30, 31, 63, 64, 65, 66, 67, 68, 69, 70, 71, 72, 73, 74] (by decide +kernel) (by decide +kernel)
set_option maxRecDepth 20000 in
theorem gX5_of_X1_usesOf : GoodIn wsX5_of (wsV RX5 71 RX1 yX1_usesOf wsX1_usesOf) := goodIn_app (goodIn_of _ (by decide +kernel)) ggX5_of_X1_usesOf
set_option maxRecDepth 20000 in
theorem ggX5_of_X1_keepsOf : GoodIn wsX5_of wsX1_keepsOf := goodIn_r _ [35, 21, 36, 22, 37, 38, 26, 39, 63, 64, 65, 66, 67, 68, 69, 70, 71, 72, 73, 74] (by decide +kernel) (by decide +kernel)
set_option maxRecDepth 20000 in
theorem gX5_of_X1_keepsOf : GoodIn wsX5_of (wsV RX5 74 RX1 yX1_keepsOf wsX1_keepsOf) := goodIn_app (goodIn_of _ (by decide +kernel)) ggX5_of_X1_keepsOf
set_option maxRecDepth 20000 in
theorem ggX5_of_X0_losing : GoodIn wsX5_of wsX0_losing := goodIn_r _ [42] (by decide +kernel) (by decide +kernel)
set_option maxRecDepth 20000 in
theorem gX5_of_X0_losing : GoodIn wsX5_of (va_wsS RX5 80 yX0_losing wsX0_losing) := goodIn_app (goodIn_of _ (by decide +kernel)) ggX5_of_X0_losing
set_option maxRecDepth 20000 in
theorem ggX5_of_X1_leadsTo : GoodIn wsX5_of wsX1_leadsTo := goodIn_r _ [46, 47, 63, 64, 65, 66, 67, 68, 69, 70, 71, 72, 73, 74] (by decide +kernel) (by decide +kernel)
set_option maxRecDepth 20000 in
theorem gX5_of_X1_leadsTo : GoodIn wsX5_of (wsV RX5 85 RX1 yX1_leadsTo wsX1_leadsTo) := goodIn_app (goodIn_of _ (by decide +kernel)) ggX5_of_X1_leadsTo
set_option maxRecDepth 20000 in
theorem ggX5_of_X1_row : GoodIn wsX5_of wsX1_row := goodIn_r _ [51, 21, 52, 22, 36, 47, 53, 63, 64, 65, 66, 67, 68, 69, 70, 71, 72, 73, 74] (by decide +kernel) (by decide +kernel)
set_option maxRecDepth 20000 in
theorem gX5_of_X1_row : GoodIn wsX5_of (wsV RX5 67 RX1 yX1_row wsX1_row) := goodIn_app (goodIn_of _ (by decide +kernel)) ggX5_of_X1_row
theorem dX5_of_0 : decode cX5_of 0 = .ok (.iload_n 1, 1) := by decide +kernel
theorem dX5_of_1 : decode cX5_of 1 = .ok (.invokestatic 52, 3) := by decide +kernel
theorem dX5_of_4 : decode cX5_of 4 = .ok (.ifCond .eq 12, 3) := by decide +kernel
theorem dX5_of_7 : decode cX5_of 7 = .ok (.iload_n 2, 1) := by decide +kernel
theorem dX5_of_8 : decode cX5_of 8 = .ok (.bipush 9, 2) := by decide +kernel
theorem dX5_of_10 : decode cX5_of 10 = .ok (.invokestatic 56, 3) := by decide +kernel
theorem dX5_of_13 : decode cX5_of 13 = .ok (.ifCond .ne 9, 3) := by decide +kernel
theorem dX5_of_16 : decode cX5_of 16 = .ok (.aload_n 0, 1) := by decide +kernel
theorem dX5_of_17 : decode cX5_of 17 = .ok (.iconst 0, 1) := by decide +kernel
theorem dX5_of_18 : decode cX5_of 18 = .ok (.invokevirtual 64, 3) := by decide +kernel
theorem dX5_of_21 : decode cX5_of 21 = .ok (.ireturn, 1) := by decide +kernel
theorem dX5_of_22 : decode cX5_of 22 = .ok (.iload_n 2, 1) := by decide +kernel
theorem dX5_of_23 : decode cX5_of 23 = .ok (.tableswitch 69 6 9 #[29, 38, 47, 60], 29) := by decide +kernel
theorem dX5_of_52 : decode cX5_of 52 = .ok (.aload_n 0, 1) := by decide +kernel
theorem dX5_of_53 : decode cX5_of 53 = .ok (.getfield 10, 3) := by decide +kernel
theorem dX5_of_56 : decode cX5_of 56 = .ok (.iload_n 1, 1) := by decide +kernel
theorem dX5_of_57 : decode cX5_of 57 = .ok (.invokevirtual 71, 3) := by decide +kernel
theorem dX5_of_60 : decode cX5_of 60 = .ok (.ireturn, 1) := by decide +kernel
theorem dX5_of_61 : decode cX5_of 61 = .ok (.aload_n 0, 1) := by decide +kernel
theorem dX5_of_62 : decode cX5_of 62 = .ok (.getfield 10, 3) := by decide +kernel
theorem dX5_of_65 : decode cX5_of 65 = .ok (.iload_n 1, 1) := by decide +kernel
theorem dX5_of_66 : decode cX5_of 66 = .ok (.invokevirtual 74, 3) := by decide +kernel
theorem dX5_of_69 : decode cX5_of 69 = .ok (.ireturn, 1) := by decide +kernel
theorem dX5_of_70 : decode cX5_of 70 = .ok (.aload_n 0, 1) := by decide +kernel
theorem dX5_of_71 : decode cX5_of 71 = .ok (.getfield 10, 3) := by decide +kernel
theorem dX5_of_74 : decode cX5_of 74 = .ok (.getfield 77, 3) := by decide +kernel
theorem dX5_of_77 : decode cX5_of 77 = .ok (.iload_n 1, 1) := by decide +kernel
theorem dX5_of_78 : decode cX5_of 78 = .ok (.iaload, 1) := by decide +kernel
theorem dX5_of_79 : decode cX5_of 79 = .ok (.invokestatic 80, 3) := by decide +kernel
theorem dX5_of_82 : decode cX5_of 82 = .ok (.ireturn, 1) := by decide +kernel
theorem dX5_of_83 : decode cX5_of 83 = .ok (.aload_n 0, 1) := by decide +kernel
theorem dX5_of_84 : decode cX5_of 84 = .ok (.getfield 10, 3) := by decide +kernel
theorem dX5_of_87 : decode cX5_of 87 = .ok (.iload_n 1, 1) := by decide +kernel
theorem dX5_of_88 : decode cX5_of 88 = .ok (.invokevirtual 85, 3) := by decide +kernel
theorem dX5_of_91 : decode cX5_of 91 = .ok (.ireturn, 1) := by decide +kernel
theorem dX5_of_92 : decode cX5_of 92 = .ok (.aload_n 0, 1) := by decide +kernel
theorem dX5_of_93 : decode cX5_of 93 = .ok (.getfield 10, 3) := by decide +kernel
theorem dX5_of_96 : decode cX5_of 96 = .ok (.iload_n 2, 1) := by decide +kernel
theorem dX5_of_97 : decode cX5_of 97 = .ok (.invokevirtual 67, 3) := by decide +kernel
theorem dX5_of_100 : decode cX5_of 100 = .ok (.iload_n 1, 1) := by decide +kernel
theorem dX5_of_101 : decode cX5_of 101 = .ok (.iaload, 1) := by decide +kernel
theorem dX5_of_102 : decode cX5_of 102 = .ok (.ireturn, 1) := by decide +kernel
set_option maxRecDepth 20000 in
theorem ggX5_rain_X5_isUpTo : GoodIn wsX5_rain wsX5_isUpTo := goodIn_r _ [6] (by decide +kernel) (by decide +kernel)
set_option maxRecDepth 20000 in
theorem gX5_rain_X5_isUpTo : GoodIn wsX5_rain (va_wsS RX5 56 yX5_isUpTo wsX5_isUpTo) := goodIn_app (goodIn_of _ (by decide +kernel)) ggX5_rain_X5_isUpTo
set_option maxRecDepth 20000 in
theorem ggX5_rain_X5_tell : GoodIn wsX5_rain wsX5_tell := goodIn_r _ [10, 11, 12, 13, 14, 15, 16, 17, 18, 19, 20, 21] (by decide +kernel) (by decide +kernel)
set_option maxRecDepth 20000 in
theorem gX5_rain_X5_tell : GoodIn wsX5_rain (wsV RX5 64 RX5 yX5_tell wsX5_tell) := goodIn_app (goodIn_of _ (by decide +kernel)) ggX5_rain_X5_tell
theorem dX5_rain_0 : decode cX5_rain 0 = .ok (.iload_n 1, 1) := by decide +kernel
theorem dX5_rain_1 : decode cX5_rain 1 = .ok (.sipush 999, 3) := by decide +kernel
theorem dX5_rain_4 : decode cX5_rain 4 = .ok (.invokestatic 56, 3) := by decide +kernel
theorem dX5_rain_7 : decode cX5_rain 7 = .ok (.ifCond .ne 9, 3) := by decide +kernel
theorem dX5_rain_10 : decode cX5_rain 10 = .ok (.aload_n 0, 1) := by decide +kernel
theorem dX5_rain_11 : decode cX5_rain 11 = .ok (.iconst 0, 1) := by decide +kernel
theorem dX5_rain_12 : decode cX5_rain 12 = .ok (.invokevirtual 64, 3) := by decide +kernel
theorem dX5_rain_15 : decode cX5_rain 15 = .ok (.ireturn, 1) := by decide +kernel
theorem dX5_rain_16 : decode cX5_rain 16 = .ok (.aload_n 0, 1) := by decide +kernel
theorem dX5_rain_17 : decode cX5_rain 17 = .ok (.getfield 10, 3) := by decide +kernel
theorem dX5_rain_20 : decode cX5_rain 20 = .ok (.getfield 88, 3) := by decide +kernel
theorem dX5_rain_23 : decode cX5_rain 23 = .ok (.istore_n 2, 1) := by decide +kernel
theorem dX5_rain_24 : decode cX5_rain 24 = .ok (.aload_n 0, 1) := by decide +kernel
theorem dX5_rain_25 : decode cX5_rain 25 = .ok (.getfield 10, 3) := by decide +kernel
theorem dX5_rain_28 : decode cX5_rain 28 = .ok (.iload_n 1, 1) := by decide +kernel
theorem dX5_rain_29 : decode cX5_rain 29 = .ok (.putfield 88, 3) := by decide +kernel
theorem dX5_rain_32 : decode cX5_rain 32 = .ok (.iload_n 2, 1) := by decide +kernel
theorem dX5_rain_33 : decode cX5_rain 33 = .ok (.ireturn, 1) := by decide +kernel
set_option maxRecDepth 20000 in
theorem ggX5_spouts_X5_isUpTo : GoodIn wsX5_spouts wsX5_isUpTo := goodIn_r _ [6] (by decide +kernel) (by decide +kernel)
set_option maxRecDepth 20000 in
theorem gX5_spouts_X5_isUpTo : GoodIn wsX5_spouts (va_wsS RX5 56 yX5_isUpTo wsX5_isUpTo) := goodIn_app (goodIn_of _ (by decide +kernel)) ggX5_spouts_X5_isUpTo
set_option maxRecDepth 20000 in
theorem ggX5_spouts_X5_tell : GoodIn wsX5_spouts wsX5_tell := goodIn_r _ [10, 11, 12, 19, 20, 21, 22, 23, 24, 25, 26, 27] (by decide +kernel) (by decide +kernel)
set_option maxRecDepth 20000 in
theorem gX5_spouts_X5_tell : GoodIn wsX5_spouts (wsV RX5 64 RX5 yX5_tell wsX5_tell) := goodIn_app (goodIn_of _ (by decide +kernel)) ggX5_spouts_X5_tell
set_option maxRecDepth 20000 in
theorem ggX5_spouts_X1_turnedSpouts : GoodIn wsX5_spouts wsX1_turnedSpouts := goodIn_r _ [17, 18, 28, 29, 30, 31, 32, 33, 34, 35, 36, 37, 38, 39] (by decide +kernel) (by decide +kernel)
set_option maxRecDepth 20000 in
theorem gX5_spouts_X1_turnedSpouts : GoodIn wsX5_spouts (wsV RX5 92 RX1 yX1_turnedSpouts wsX1_turnedSpouts) := goodIn_app (goodIn_of _ (by decide +kernel)) ggX5_spouts_X1_turnedSpouts
theorem dX5_spouts_0 : decode cX5_spouts 0 = .ok (.iload_n 1, 1) := by decide +kernel
theorem dX5_spouts_1 : decode cX5_spouts 1 = .ok (.sipush 2047, 3) := by decide +kernel
theorem dX5_spouts_4 : decode cX5_spouts 4 = .ok (.invokestatic 56, 3) := by decide +kernel
theorem dX5_spouts_7 : decode cX5_spouts 7 = .ok (.ifCond .ne 9, 3) := by decide +kernel
theorem dX5_spouts_10 : decode cX5_spouts 10 = .ok (.aload_n 0, 1) := by decide +kernel
theorem dX5_spouts_11 : decode cX5_spouts 11 = .ok (.iconst 0, 1) := by decide +kernel
theorem dX5_spouts_12 : decode cX5_spouts 12 = .ok (.invokevirtual 64, 3) := by decide +kernel
theorem dX5_spouts_15 : decode cX5_spouts 15 = .ok (.ireturn, 1) := by decide +kernel
theorem dX5_spouts_16 : decode cX5_spouts 16 = .ok (.aload_n 0, 1) := by decide +kernel
theorem dX5_spouts_17 : decode cX5_spouts 17 = .ok (.getfield 10, 3) := by decide +kernel
theorem dX5_spouts_20 : decode cX5_spouts 20 = .ok (.invokevirtual 92, 3) := by decide +kernel
theorem dX5_spouts_23 : decode cX5_spouts 23 = .ok (.istore_n 2, 1) := by decide +kernel
theorem dX5_spouts_24 : decode cX5_spouts 24 = .ok (.iconst 0, 1) := by decide +kernel
theorem dX5_spouts_25 : decode cX5_spouts 25 = .ok (.istore_n 3, 1) := by decide +kernel
theorem dX5_spouts_26 : decode cX5_spouts 26 = .ok (.iload_n 3, 1) := by decide +kernel
theorem dX5_spouts_27 : decode cX5_spouts 27 = .ok (.bipush 11, 2) := by decide +kernel
theorem dX5_spouts_29 : decode cX5_spouts 29 = .ok (.if_icmp .ge 23, 3) := by decide +kernel
theorem dX5_spouts_32 : decode cX5_spouts 32 = .ok (.aload_n 0, 1) := by decide +kernel
theorem dX5_spouts_33 : decode cX5_spouts 33 = .ok (.getfield 10, 3) := by decide +kernel
theorem dX5_spouts_36 : decode cX5_spouts 36 = .ok (.getfield 96, 3) := by decide +kernel
theorem dX5_spouts_39 : decode cX5_spouts 39 = .ok (.iload_n 3, 1) := by decide +kernel
theorem dX5_spouts_40 : decode cX5_spouts 40 = .ok (.iload_n 1, 1) := by decide +kernel
theorem dX5_spouts_41 : decode cX5_spouts 41 = .ok (.iload_n 3, 1) := by decide +kernel
theorem dX5_spouts_42 : decode cX5_spouts 42 = .ok (.ishr, 1) := by decide +kernel
theorem dX5_spouts_43 : decode cX5_spouts 43 = .ok (.iconst 1, 1) := by decide +kernel
theorem dX5_spouts_44 : decode cX5_spouts 44 = .ok (.iand, 1) := by decide +kernel
theorem dX5_spouts_45 : decode cX5_spouts 45 = .ok (.iastore, 1) := by decide +kernel
theorem dX5_spouts_46 : decode cX5_spouts 46 = .ok (.iinc 3 1, 3) := by decide +kernel
theorem dX5_spouts_49 : decode cX5_spouts 49 = .ok (.goto (-23), 3) := by decide +kernel
theorem dX5_spouts_52 : decode cX5_spouts 52 = .ok (.iload_n 2, 1) := by decide +kernel
theorem dX5_spouts_53 : decode cX5_spouts 53 = .ok (.ireturn, 1) := by decide +kernel
set_option maxRecDepth 20000 in
theorem ggX5_pour_X5_isHouse : GoodIn wsX5_pour wsX5_isHouse := goodIn_r _ [6, 7, 8, 5, 9] (by decide +kernel) (by decide +kernel)
set_option maxRecDepth 20000 in
theorem gX5_pour_X5_isHouse : GoodIn wsX5_pour (va_wsS RX5 52 yX5_isHouse wsX5_isHouse) := goodIn_app (goodIn_of _ (by decide +kernel)) ggX5_pour_X5_isHouse
set_option maxRecDepth 20000 in
theorem ggX5_pour_X5_isUpTo : GoodIn wsX5_pour wsX5_isUpTo := goodIn_r _ [9] (by decide +kernel) (by decide +kernel)
set_option maxRecDepth 20000 in
theorem gX5_pour_X5_isUpTo : GoodIn wsX5_pour (va_wsS RX5 56 yX5_isUpTo wsX5_isUpTo) := goodIn_app (goodIn_of _ (by decide +kernel)) ggX5_pour_X5_isUpTo
set_option maxRecDepth 20000 in
theorem ggX5_pour_X5_tell : GoodIn wsX5_pour wsX5_tell := goodIn_r _ [13, 14, 15, 33, 34, 35, 36, 37, 38, 39, 40, 41] (by decide +kernel) (by decide +kernel)
set_option maxRecDepth 20000 in
theorem gX5_pour_X5_tell : GoodIn wsX5_pour (wsV RX5 64 RX5 yX5_tell wsX5_tell) := goodIn_app (goodIn_of _ (by decide +kernel)) ggX5_pour_X5_tell
set_option maxRecDepth 20000 in
theorem ggX5_pour_X1_bring : GoodIn wsX5_pour wsX1_bring := goodIn_r _ [20, 21, 22, 23, 24, 25, 26, 27, 28, 29, 30, 19, 31, 32, 42, 43, 44, 45, 46, 47, 48, 49, 50, 51, 52, 53] (by decide +kernel) (by decide +kernel)
set_option maxRecDepth 20000 in
theorem gX5_pour_X1_bring : GoodIn wsX5_pour (wsV RX5 99 RX1 yX1_bring wsX1_bring) := goodIn_app (goodIn_of _ (by decide +kernel)) ggX5_pour_X1_bring
theorem dX5_pour_0 : decode cX5_pour 0 = .ok (.iload_n 1, 1) := by decide +kernel
theorem dX5_pour_1 : decode cX5_pour 1 = .ok (.invokestatic 52, 3) := by decide +kernel
theorem dX5_pour_4 : decode cX5_pour 4 = .ok (.ifCond .eq 13, 3) := by decide +kernel
theorem dX5_pour_7 : decode cX5_pour 7 = .ok (.iload_n 2, 1) := by decide +kernel
theorem dX5_pour_8 : decode cX5_pour 8 = .ok (.sipush 9999, 3) := by decide +kernel
theorem dX5_pour_11 : decode cX5_pour 11 = .ok (.invokestatic 56, 3) := by decide +kernel
theorem dX5_pour_14 : decode cX5_pour 14 = .ok (.ifCond .ne 9, 3) := by decide +kernel
theorem dX5_pour_17 : decode cX5_pour 17 = .ok (.aload_n 0, 1) := by decide +kernel
theorem dX5_pour_18 : decode cX5_pour 18 = .ok (.iconst 0, 1) := by decide +kernel
theorem dX5_pour_19 : decode cX5_pour 19 = .ok (.invokevirtual 64, 3) := by decide +kernel
theorem dX5_pour_22 : decode cX5_pour 22 = .ok (.ireturn, 1) := by decide +kernel
theorem dX5_pour_23 : decode cX5_pour 23 = .ok (.aload_n 0, 1) := by decide +kernel
theorem dX5_pour_24 : decode cX5_pour 24 = .ok (.getfield 10, 3) := by decide +kernel
theorem dX5_pour_27 : decode cX5_pour 27 = .ok (.iload_n 1, 1) := by decide +kernel
theorem dX5_pour_28 : decode cX5_pour 28 = .ok (.iload_n 2, 1) := by decide +kernel
theorem dX5_pour_29 : decode cX5_pour 29 = .ok (.invokevirtual 99, 3) := by decide +kernel
theorem dX5_pour_32 : decode cX5_pour 32 = .ok (.aload_n 0, 1) := by decide +kernel
theorem dX5_pour_33 : decode cX5_pour 33 = .ok (.getfield 10, 3) := by decide +kernel
theorem dX5_pour_36 : decode cX5_pour 36 = .ok (.getfield 103, 3) := by decide +kernel
theorem dX5_pour_39 : decode cX5_pour 39 = .ok (.iload_n 1, 1) := by decide +kernel
theorem dX5_pour_40 : decode cX5_pour 40 = .ok (.iaload, 1) := by decide +kernel
theorem dX5_pour_41 : decode cX5_pour 41 = .ok (.ireturn, 1) := by decide +kernel
set_option maxRecDepth 20000 in
theorem ggX5_go_X5_tell : GoodIn wsX5_go wsX5_tell := goodIn_r _ [9, 10, 11, 70, 71, 72, 73, 74, 75, 76, 77, 78] (by decide +kernel) (by decide +kernel)
set_option maxRecDepth 20000 in
theorem gX5_go_X5_tell : GoodIn wsX5_go (wsV RX5 64 RX5 yX5_tell wsX5_tell) := goodIn_app (goodIn_of _ (by decide +kernel)) ggX5_go_X5_tell
set_option maxRecDepth 20000 in
theorem ggX5_go_X1_passHours : GoodIn wsX5_go wsX1_passHours := goodIn_r _ [16, 17, 18, 19, 15, 20, 21, 22, 23, 24, 25, 26, 27, 28, 29, 30, 31, 32, 33, 34, 35, 36, 37, 38, 39, 40, 41, 42, 43, 44, 45, 46, 47, 48, 49, 50, 51, 52, 53, 54, 55, 56, 57, 58, 59, 60, 61, 62, 63, 64, 65, 66, 67, 68, 69, 79, 80, 81, 82, 83, 84, 85, 86, 87, 88, 89, 90] (by decide +kernel) (by decide +kernel)
set_option maxRecDepth 20000 in
theorem gX5_go_X1_passHours : GoodIn wsX5_go (wsV RX5 110 RX1 yX1_passHours wsX1_passHours) := goodIn_app (goodIn_of _ (by decide +kernel)) ggX5_go_X1_passHours
theorem dX5_go_0 : decode cX5_go 0 = .ok (.iload_n 1, 1) := by decide +kernel
theorem dX5_go_1 : decode cX5_go 1 = .ok (.iconst 1, 1) := by decide +kernel
theorem dX5_go_2 : decode cX5_go 2 = .ok (.if_icmp .lt 9, 3) := by decide +kernel
theorem dX5_go_5 : decode cX5_go 5 = .ok (.iload_n 1, 1) := by decide +kernel
theorem dX5_go_6 : decode cX5_go 6 = .ok (.bipush 60, 2) := by decide +kernel
theorem dX5_go_8 : decode cX5_go 8 = .ok (.if_icmp .le 9, 3) := by decide +kernel
theorem dX5_go_11 : decode cX5_go 11 = .ok (.aload_n 0, 1) := by decide +kernel
theorem dX5_go_12 : decode cX5_go 12 = .ok (.iconst 0, 1) := by decide +kernel
theorem dX5_go_13 : decode cX5_go 13 = .ok (.invokevirtual 64, 3) := by decide +kernel
theorem dX5_go_16 : decode cX5_go 16 = .ok (.ireturn, 1) := by decide +kernel
theorem dX5_go_17 : decode cX5_go 17 = .ok (.aload_n 0, 1) := by decide +kernel
theorem dX5_go_18 : decode cX5_go 18 = .ok (.getfield 10, 3) := by decide +kernel
theorem dX5_go_21 : decode cX5_go 21 = .ok (.getfield 106, 3) := by decide +kernel
theorem dX5_go_24 : decode cX5_go 24 = .ok (.iload_n 1, 1) := by decide +kernel
theorem dX5_go_25 : decode cX5_go 25 = .ok (.iadd, 1) := by decide +kernel
theorem dX5_go_26 : decode cX5_go 26 = .ok (.ldc 109, 2) := by decide +kernel
theorem dX5_go_28 : decode cX5_go 28 = .ok (.if_icmp .le 9, 3) := by decide +kernel
theorem dX5_go_31 : decode cX5_go 31 = .ok (.aload_n 0, 1) := by decide +kernel
theorem dX5_go_32 : decode cX5_go 32 = .ok (.iconst 4, 1) := by decide +kernel
theorem dX5_go_33 : decode cX5_go 33 = .ok (.invokevirtual 64, 3) := by decide +kernel
theorem dX5_go_36 : decode cX5_go 36 = .ok (.ireturn, 1) := by decide +kernel
theorem dX5_go_37 : decode cX5_go 37 = .ok (.aload_n 0, 1) := by decide +kernel
theorem dX5_go_38 : decode cX5_go 38 = .ok (.getfield 10, 3) := by decide +kernel
theorem dX5_go_41 : decode cX5_go 41 = .ok (.iload_n 1, 1) := by decide +kernel
theorem dX5_go_42 : decode cX5_go 42 = .ok (.bipush 10, 2) := by decide +kernel
theorem dX5_go_44 : decode cX5_go 44 = .ok (.invokevirtual 110, 3) := by decide +kernel
theorem dX5_go_47 : decode cX5_go 47 = .ok (.pop, 1) := by decide +kernel
theorem dX5_go_48 : decode cX5_go 48 = .ok (.aload_n 0, 1) := by decide +kernel
theorem dX5_go_49 : decode cX5_go 49 = .ok (.getfield 10, 3) := by decide +kernel
theorem dX5_go_52 : decode cX5_go 52 = .ok (.getfield 114, 3) := by decide +kernel
theorem dX5_go_55 : decode cX5_go 55 = .ok (.ireturn, 1) := by decide +kernel
set_option maxRecDepth 20000 in
theorem ggX5_now_X1_waterOfAll : GoodIn wsX5_now wsX1_waterOfAll := goodIn_r _ [10, 11, 38, 39, 40, 41, 42, 43, 44, 45, 46, 47, 48, 49] (by decide +kernel) (by decide +kernel)
set_option maxRecDepth 20000 in
theorem gX5_now_X1_waterOfAll : GoodIn wsX5_now (wsV RX5 117 RX1 yX1_waterOfAll wsX1_waterOfAll) := goodIn_app (goodIn_of _ (by decide +kernel)) ggX5_now_X1_waterOfAll
set_option maxRecDepth 20000 in
theorem ggX5_now_X1_everDry : GoodIn wsX5_now wsX1_everDry := goodIn_r _ [15, 16, 38, 39, 40, 41, 42, 43, 44, 45, 46, 47, 48, 49] (by decide +kernel) (by decide +kernel)
set_option maxRecDepth 20000 in
theorem gX5_now_X1_everDry : GoodIn wsX5_now (wsV RX5 123 RX1 yX1_everDry wsX1_everDry) := goodIn_app (goodIn_of _ (by decide +kernel)) ggX5_now_X1_everDry
set_option maxRecDepth 20000 in
theorem ggX5_now_X1_turnedSpouts : GoodIn wsX5_now wsX1_turnedSpouts := goodIn_r _ [20, 21, 38, 39, 40, 41, 42, 43, 44, 45, 46, 47, 48, 49] (by decide +kernel) (by decide +kernel)
set_option maxRecDepth 20000 in
theorem gX5_now_X1_turnedSpouts : GoodIn wsX5_now (wsV RX5 92 RX1 yX1_turnedSpouts wsX1_turnedSpouts) := goodIn_app (goodIn_of _ (by decide +kernel)) ggX5_now_X1_turnedSpouts
set_option maxRecDepth 20000 in
theorem ggX5_now_X5_tell : GoodIn wsX5_now wsX5_tell := goodIn_r _ [26, 27, 28, 29, 30, 31, 32, 33, 34, 35, 36, 37] (by decide +kernel) (by decide +kernel)
set_option maxRecDepth 20000 in
theorem gX5_now_X5_tell : GoodIn wsX5_now (wsV RX5 64 RX5 yX5_tell wsX5_tell) := goodIn_app (goodIn_of _ (by decide +kernel)) ggX5_now_X5_tell
theorem dX5_now_0 : decode cX5_now 0 = .ok (.iload_n 1, 1) := by decide +kernel
theorem dX5_now_1 : decode cX5_now 1 = .ok (.tableswitch 99 0 6 #[43, 51, 59, 67, 75, 83, 91], 43) := by decide +kernel
theorem dX5_now_44 : decode cX5_now 44 = .ok (.aload_n 0, 1) := by decide +kernel
theorem dX5_now_45 : decode cX5_now 45 = .ok (.getfield 10, 3) := by decide +kernel
theorem dX5_now_48 : decode cX5_now 48 = .ok (.getfield 106, 3) := by decide +kernel
theorem dX5_now_51 : decode cX5_now 51 = .ok (.ireturn, 1) := by decide +kernel
theorem dX5_now_52 : decode cX5_now 52 = .ok (.aload_n 0, 1) := by decide +kernel
theorem dX5_now_53 : decode cX5_now 53 = .ok (.getfield 10, 3) := by decide +kernel
theorem dX5_now_56 : decode cX5_now 56 = .ok (.invokevirtual 117, 3) := by decide +kernel
theorem dX5_now_59 : decode cX5_now 59 = .ok (.ireturn, 1) := by decide +kernel
theorem dX5_now_60 : decode cX5_now 60 = .ok (.aload_n 0, 1) := by decide +kernel
theorem dX5_now_61 : decode cX5_now 61 = .ok (.getfield 10, 3) := by decide +kernel
theorem dX5_now_64 : decode cX5_now 64 = .ok (.getfield 114, 3) := by decide +kernel
theorem dX5_now_67 : decode cX5_now 67 = .ok (.ireturn, 1) := by decide +kernel
theorem dX5_now_68 : decode cX5_now 68 = .ok (.aload_n 0, 1) := by decide +kernel
theorem dX5_now_69 : decode cX5_now 69 = .ok (.getfield 10, 3) := by decide +kernel
theorem dX5_now_72 : decode cX5_now 72 = .ok (.getfield 120, 3) := by decide +kernel
theorem dX5_now_75 : decode cX5_now 75 = .ok (.ireturn, 1) := by decide +kernel
theorem dX5_now_76 : decode cX5_now 76 = .ok (.aload_n 0, 1) := by decide +kernel
theorem dX5_now_77 : decode cX5_now 77 = .ok (.getfield 10, 3) := by decide +kernel
theorem dX5_now_80 : decode cX5_now 80 = .ok (.invokevirtual 123, 3) := by decide +kernel
theorem dX5_now_83 : decode cX5_now 83 = .ok (.ireturn, 1) := by decide +kernel
theorem dX5_now_84 : decode cX5_now 84 = .ok (.aload_n 0, 1) := by decide +kernel
theorem dX5_now_85 : decode cX5_now 85 = .ok (.getfield 10, 3) := by decide +kernel
theorem dX5_now_88 : decode cX5_now 88 = .ok (.invokevirtual 92, 3) := by decide +kernel
theorem dX5_now_91 : decode cX5_now 91 = .ok (.ireturn, 1) := by decide +kernel
theorem dX5_now_92 : decode cX5_now 92 = .ok (.aload_n 0, 1) := by decide +kernel
theorem dX5_now_93 : decode cX5_now 93 = .ok (.getfield 10, 3) := by decide +kernel
theorem dX5_now_96 : decode cX5_now 96 = .ok (.getfield 88, 3) := by decide +kernel
theorem dX5_now_99 : decode cX5_now 99 = .ok (.ireturn, 1) := by decide +kernel
theorem dX5_now_100 : decode cX5_now 100 = .ok (.aload_n 0, 1) := by decide +kernel
theorem dX5_now_101 : decode cX5_now 101 = .ok (.iconst 0, 1) := by decide +kernel
theorem dX5_now_102 : decode cX5_now 102 = .ok (.invokevirtual 64, 3) := by decide +kernel
theorem dX5_now_105 : decode cX5_now 105 = .ok (.ireturn, 1) := by decide +kernel
set_option maxRecDepth 20000 in
theorem ggX5_ahead_X5_isHouse : GoodIn wsX5_ahead wsX5_isHouse := goodIn_r _ [6, 7, 8, 5, 9] (by decide +kernel) (by decide +kernel)
set_option maxRecDepth 20000 in
theorem gX5_ahead_X5_isHouse : GoodIn wsX5_ahead (va_wsS RX5 52 yX5_isHouse wsX5_isHouse) := goodIn_app (goodIn_of _ (by decide +kernel)) ggX5_ahead_X5_isHouse
set_option maxRecDepth 20000 in
theorem ggX5_ahead_X5_isUpTo : GoodIn wsX5_ahead wsX5_isUpTo := goodIn_r _ [9] (by decide +kernel) (by decide +kernel)
set_option maxRecDepth 20000 in
theorem gX5_ahead_X5_isUpTo : GoodIn wsX5_ahead (va_wsS RX5 56 yX5_isUpTo wsX5_isUpTo) := goodIn_app (goodIn_of _ (by decide +kernel)) ggX5_ahead_X5_isUpTo
set_option maxRecDepth 20000 in
theorem ggX5_ahead_X5_tell : GoodIn wsX5_ahead wsX5_tell := goodIn_r _ [13, 14, 15, 88, 89, 90, 91, 92, 93, 94, 95, 96] (by decide +kernel) (by decide +kernel)
set_option maxRecDepth 20000 in
theorem gX5_ahead_X5_tell : GoodIn wsX5_ahead (wsV RX5 64 RX5 yX5_tell wsX5_tell) := goodIn_app (goodIn_of _ (by decide +kernel)) ggX5_ahead_X5_tell
set_option maxRecDepth 20000 in
theorem ggX5_ahead_X1_become : GoodIn wsX5_ahead wsX1_become := goodIn_r _ [20, 21, 22, 23, 24, 25, 26, 27, 28, 29, 30, 31, 32, 33, 34, 35, 36, 97, 98, 99, 100, 101, 102, 103, 104, 105, 106, 107, 108] (by decide +kernel) (by decide +kernel)
set_option maxRecDepth 20000 in
theorem gX5_ahead_X1_become : GoodIn wsX5_ahead (wsV RX5 126 RX1 yX1_become wsX1_become) := goodIn_app (goodIn_of _ (by decide +kernel)) ggX5_ahead_X1_become
set_option maxRecDepth 20000 in
theorem ggX5_ahead_X1_passHours : GoodIn wsX5_ahead wsX1_passHours := goodIn_r _ [40, 41, 42, 43, 19, 44, 32, 26, 30, 45, 46, 47, 48, 21, 49, 35, 50, 51, 52, 53, 54, 33, 55, 56, 57, 58, 34, 59, 60, 61, 62, 27, 63, 64, 65, 66, 67, 68, 69, 70, 71, 72, 73, 28, 74, 75, 76, 77, 78, 79, 80, 81, 82, 83, 29, 97, 98, 99, 100, 101, 102, 103, 104, 105, 106, 107, 108] (by decide +kernel) (by decide +kernel)
set_option maxRecDepth 20000 in
theorem gX5_ahead_X1_passHours : GoodIn wsX5_ahead (wsV RX5 110 RX1 yX1_passHours wsX1_passHours) := goodIn_app (goodIn_of _ (by decide +kernel)) ggX5_ahead_X1_passHours
set_option maxRecDepth 20000 in
theorem ggX5_ahead_X1_row : GoodIn wsX5_ahead wsX1_row := goodIn_r _ [87, 21, 26, 27, 28, 29, 30, 97, 98, 99, 100, 101, 102, 103, 104, 105, 106, 107, 108] (by decide +kernel) (by decide +kernel)
set_option maxRecDepth 20000 in
theorem gX5_ahead_X1_row : GoodIn wsX5_ahead (wsV RX5 67 RX1 yX1_row wsX1_row) := goodIn_app (goodIn_of _ (by decide +kernel)) ggX5_ahead_X1_row
theorem dX5_ahead_0 : decode cX5_ahead 0 = .ok (.iload_n 1, 1) := by decide +kernel
theorem dX5_ahead_1 : decode cX5_ahead 1 = .ok (.invokestatic 52, 3) := by decide +kernel
theorem dX5_ahead_4 : decode cX5_ahead 4 = .ok (.ifCond .eq 22, 3) := by decide +kernel
theorem dX5_ahead_7 : decode cX5_ahead 7 = .ok (.iload_n 2, 1) := by decide +kernel
theorem dX5_ahead_8 : decode cX5_ahead 8 = .ok (.iconst 1, 1) := by decide +kernel
theorem dX5_ahead_9 : decode cX5_ahead 9 = .ok (.if_icmp .eq 8, 3) := by decide +kernel
theorem dX5_ahead_12 : decode cX5_ahead 12 = .ok (.iload_n 2, 1) := by decide +kernel
theorem dX5_ahead_13 : decode cX5_ahead 13 = .ok (.iconst 5, 1) := by decide +kernel
theorem dX5_ahead_14 : decode cX5_ahead 14 = .ok (.if_icmp .ne 12, 3) := by decide +kernel
theorem dX5_ahead_17 : decode cX5_ahead 17 = .ok (.iload_n 3, 1) := by decide +kernel
theorem dX5_ahead_18 : decode cX5_ahead 18 = .ok (.bipush 100, 2) := by decide +kernel
theorem dX5_ahead_20 : decode cX5_ahead 20 = .ok (.invokestatic 56, 3) := by decide +kernel
theorem dX5_ahead_23 : decode cX5_ahead 23 = .ok (.ifCond .ne 9, 3) := by decide +kernel
theorem dX5_ahead_26 : decode cX5_ahead 26 = .ok (.aload_n 0, 1) := by decide +kernel
theorem dX5_ahead_27 : decode cX5_ahead 27 = .ok (.iconst 0, 1) := by decide +kernel
theorem dX5_ahead_28 : decode cX5_ahead 28 = .ok (.invokevirtual 64, 3) := by decide +kernel
theorem dX5_ahead_31 : decode cX5_ahead 31 = .ok (.ireturn, 1) := by decide +kernel
theorem dX5_ahead_32 : decode cX5_ahead 32 = .ok (.aload_n 0, 1) := by decide +kernel
theorem dX5_ahead_33 : decode cX5_ahead 33 = .ok (.getfield 19, 3) := by decide +kernel
theorem dX5_ahead_36 : decode cX5_ahead 36 = .ok (.aload_n 0, 1) := by decide +kernel
theorem dX5_ahead_37 : decode cX5_ahead 37 = .ok (.getfield 10, 3) := by decide +kernel
theorem dX5_ahead_40 : decode cX5_ahead 40 = .ok (.invokevirtual 126, 3) := by decide +kernel
theorem dX5_ahead_43 : decode cX5_ahead 43 = .ok (.aload_n 0, 1) := by decide +kernel
theorem dX5_ahead_44 : decode cX5_ahead 44 = .ok (.getfield 19, 3) := by decide +kernel
theorem dX5_ahead_47 : decode cX5_ahead 47 = .ok (.iload_n 3, 1) := by decide +kernel
theorem dX5_ahead_48 : decode cX5_ahead 48 = .ok (.iload_n 1, 1) := by decide +kernel
theorem dX5_ahead_49 : decode cX5_ahead 49 = .ok (.invokevirtual 110, 3) := by decide +kernel
theorem dX5_ahead_52 : decode cX5_ahead 52 = .ok (.pop, 1) := by decide +kernel
theorem dX5_ahead_53 : decode cX5_ahead 53 = .ok (.aload_n 0, 1) := by decide +kernel
theorem dX5_ahead_54 : decode cX5_ahead 54 = .ok (.getfield 19, 3) := by decide +kernel
theorem dX5_ahead_57 : decode cX5_ahead 57 = .ok (.iload_n 2, 1) := by decide +kernel
theorem dX5_ahead_58 : decode cX5_ahead 58 = .ok (.invokevirtual 67, 3) := by decide +kernel
theorem dX5_ahead_61 : decode cX5_ahead 61 = .ok (.iload_n 1, 1) := by decide +kernel
theorem dX5_ahead_62 : decode cX5_ahead 62 = .ok (.iaload, 1) := by decide +kernel
theorem dX5_ahead_63 : decode cX5_ahead 63 = .ok (.ireturn, 1) := by decide +kernel
set_option maxRecDepth 20000 in
theorem ggX5_alley_X5_isUpTo : GoodIn wsX5_alley wsX5_isUpTo := goodIn_r _ [7] (by decide +kernel) (by decide +kernel)
set_option maxRecDepth 20000 in
theorem gX5_alley_X5_isUpTo : GoodIn wsX5_alley (va_wsS RX5 56 yX5_isUpTo wsX5_isUpTo) := goodIn_app (goodIn_of _ (by decide +kernel)) ggX5_alley_X5_isUpTo
set_option maxRecDepth 20000 in
theorem ggX5_alley_X5_tell : GoodIn wsX5_alley wsX5_tell := goodIn_r _ [11, 12, 13, 82, 83, 84, 85, 86, 87, 88, 89, 90] (by decide +kernel) (by decide +kernel)
set_option maxRecDepth 20000 in
theorem gX5_alley_X5_tell : GoodIn wsX5_alley (wsV RX5 64 RX5 yX5_tell wsX5_tell) := goodIn_app (goodIn_of _ (by decide +kernel)) ggX5_alley_X5_tell
set_option maxRecDepth 20000 in
theorem ggX5_alley_X1_become : GoodIn wsX5_alley wsX1_become := goodIn_r _ [18, 19, 20, 21, 22, 23, 24, 25, 26, 27, 28, 29, 30, 31, 32, 33, 34, 91, 92, 93, 94, 95, 96, 97, 98, 99, 100, 101, 102] (by decide +kernel) (by decide +kernel)
set_option maxRecDepth 20000 in
theorem gX5_alley_X1_become : GoodIn wsX5_alley (wsV RX5 126 RX1 yX1_become wsX1_become) := goodIn_app (goodIn_of _ (by decide +kernel)) ggX5_alley_X1_become
set_option maxRecDepth 20000 in
theorem ggX5_alley_X1_passHours : GoodIn wsX5_alley wsX1_passHours := goodIn_r _ [38, 39, 40, 41, 17, 42, 30, 24, 28, 43, 44, 45, 46, 19, 47, 33, 48, 49, 50, 51, 52, 31, 53, 54, 55, 56, 32, 57, 58, 59, 60, 25, 61, 62, 63, 64, 65, 66, 67, 68, 69, 70, 71, 26, 72, 73, 74, 75, 76, 77, 78, 79, 80, 81, 27, 91, 92, 93, 94, 95, 96, 97, 98, 99, 100, 101, 102] (by decide +kernel) (by decide +kernel)
set_option maxRecDepth 20000 in
theorem gX5_alley_X1_passHours : GoodIn wsX5_alley (wsV RX5 110 RX1 yX1_passHours wsX1_passHours) := goodIn_app (goodIn_of _ (by decide +kernel)) ggX5_alley_X1_passHours
theorem dX5_alley_0 : decode cX5_alley 0 = .ok (.iload_n 1, 1) := by decide +kernel
theorem dX5_alley_1 : decode cX5_alley 1 = .ok (.bipush 100, 2) := by decide +kernel
theorem dX5_alley_3 : decode cX5_alley 3 = .ok (.invokestatic 56, 3) := by decide +kernel
theorem dX5_alley_6 : decode cX5_alley 6 = .ok (.ifCond .ne 9, 3) := by decide +kernel
theorem dX5_alley_9 : decode cX5_alley 9 = .ok (.aload_n 0, 1) := by decide +kernel
theorem dX5_alley_10 : decode cX5_alley 10 = .ok (.iconst 0, 1) := by decide +kernel
theorem dX5_alley_11 : decode cX5_alley 11 = .ok (.invokevirtual 64, 3) := by decide +kernel
theorem dX5_alley_14 : decode cX5_alley 14 = .ok (.ireturn, 1) := by decide +kernel
theorem dX5_alley_15 : decode cX5_alley 15 = .ok (.aload_n 0, 1) := by decide +kernel
theorem dX5_alley_16 : decode cX5_alley 16 = .ok (.getfield 19, 3) := by decide +kernel
theorem dX5_alley_19 : decode cX5_alley 19 = .ok (.aload_n 0, 1) := by decide +kernel
theorem dX5_alley_20 : decode cX5_alley 20 = .ok (.getfield 10, 3) := by decide +kernel
theorem dX5_alley_23 : decode cX5_alley 23 = .ok (.invokevirtual 126, 3) := by decide +kernel
theorem dX5_alley_26 : decode cX5_alley 26 = .ok (.aload_n 0, 1) := by decide +kernel
theorem dX5_alley_27 : decode cX5_alley 27 = .ok (.getfield 19, 3) := by decide +kernel
theorem dX5_alley_30 : decode cX5_alley 30 = .ok (.iload_n 1, 1) := by decide +kernel
theorem dX5_alley_31 : decode cX5_alley 31 = .ok (.bipush 10, 2) := by decide +kernel
theorem dX5_alley_33 : decode cX5_alley 33 = .ok (.invokevirtual 110, 3) := by decide +kernel
theorem dX5_alley_36 : decode cX5_alley 36 = .ok (.pop, 1) := by decide +kernel
theorem dX5_alley_37 : decode cX5_alley 37 = .ok (.aload_n 0, 1) := by decide +kernel
theorem dX5_alley_38 : decode cX5_alley 38 = .ok (.getfield 19, 3) := by decide +kernel
theorem dX5_alley_41 : decode cX5_alley 41 = .ok (.getfield 114, 3) := by decide +kernel
theorem dX5_alley_44 : decode cX5_alley 44 = .ok (.ireturn, 1) := by decide +kernel
set_option maxRecDepth 20000 in
theorem ggX5_dry_X5_isUpTo : GoodIn wsX5_dry wsX5_isUpTo := goodIn_r _ [6] (by decide +kernel) (by decide +kernel)
set_option maxRecDepth 20000 in
theorem gX5_dry_X5_isUpTo : GoodIn wsX5_dry (va_wsS RX5 56 yX5_isUpTo wsX5_isUpTo) := goodIn_app (goodIn_of _ (by decide +kernel)) ggX5_dry_X5_isUpTo
set_option maxRecDepth 20000 in
theorem ggX5_dry_X5_tell : GoodIn wsX5_dry wsX5_tell := goodIn_r _ [10, 11, 12, 81, 82, 83, 84, 85, 86, 87, 88, 89] (by decide +kernel) (by decide +kernel)
set_option maxRecDepth 20000 in
theorem gX5_dry_X5_tell : GoodIn wsX5_dry (wsV RX5 64 RX5 yX5_tell wsX5_tell) := goodIn_app (goodIn_of _ (by decide +kernel)) ggX5_dry_X5_tell
set_option maxRecDepth 20000 in
theorem ggX5_dry_X1_become : GoodIn wsX5_dry wsX1_become := goodIn_r _ [17, 18, 19, 20, 21, 22, 23, 24, 25, 26, 27, 28, 29, 30, 31, 32, 33, 90, 91, 92, 93, 94, 95, 96, 97, 98, 99, 100, 101] (by decide +kernel) (by decide +kernel)
set_option maxRecDepth 20000 in
theorem gX5_dry_X1_become : GoodIn wsX5_dry (wsV RX5 126 RX1 yX1_become wsX1_become) := goodIn_app (goodIn_of _ (by decide +kernel)) ggX5_dry_X1_become
set_option maxRecDepth 20000 in
theorem ggX5_dry_X1_passHours : GoodIn wsX5_dry wsX1_passHours := goodIn_r _ [37, 38, 39, 40, 16, 41, 29, 23, 27, 42, 43, 44, 45, 18, 46, 32, 47, 48, 49, 50, 51, 30, 52, 53, 54, 55, 31, 56, 57, 58, 59, 24, 60, 61, 62, 63, 64, 65, 66, 67, 68, 69, 70, 25, 71, 72, 73, 74, 75, 76, 77, 78, 79, 80, 26, 90, 91, 92, 93, 94, 95, 96, 97, 98, 99, 100, 101] (by decide +kernel) (by decide +kernel)
set_option maxRecDepth 20000 in
theorem gX5_dry_X1_passHours : GoodIn wsX5_dry (wsV RX5 110 RX1 yX1_passHours wsX1_passHours) := goodIn_app (goodIn_of _ (by decide +kernel)) ggX5_dry_X1_passHours
theorem dX5_dry_0 : decode cX5_dry 0 = .ok (.iload_n 1, 1) := by decide +kernel
theorem dX5_dry_1 : decode cX5_dry 1 = .ok (.bipush 100, 2) := by decide +kernel
theorem dX5_dry_3 : decode cX5_dry 3 = .ok (.invokestatic 56, 3) := by decide +kernel
theorem dX5_dry_6 : decode cX5_dry 6 = .ok (.ifCond .ne 9, 3) := by decide +kernel
theorem dX5_dry_9 : decode cX5_dry 9 = .ok (.aload_n 0, 1) := by decide +kernel
theorem dX5_dry_10 : decode cX5_dry 10 = .ok (.iconst 0, 1) := by decide +kernel
theorem dX5_dry_11 : decode cX5_dry 11 = .ok (.invokevirtual 64, 3) := by decide +kernel
theorem dX5_dry_14 : decode cX5_dry 14 = .ok (.ireturn, 1) := by decide +kernel
theorem dX5_dry_15 : decode cX5_dry 15 = .ok (.aload_n 0, 1) := by decide +kernel
theorem dX5_dry_16 : decode cX5_dry 16 = .ok (.getfield 19, 3) := by decide +kernel
theorem dX5_dry_19 : decode cX5_dry 19 = .ok (.aload_n 0, 1) := by decide +kernel
theorem dX5_dry_20 : decode cX5_dry 20 = .ok (.getfield 10, 3) := by decide +kernel
theorem dX5_dry_23 : decode cX5_dry 23 = .ok (.invokevirtual 126, 3) := by decide +kernel
theorem dX5_dry_26 : decode cX5_dry 26 = .ok (.aload_n 0, 1) := by decide +kernel
theorem dX5_dry_27 : decode cX5_dry 27 = .ok (.getfield 19, 3) := by decide +kernel
theorem dX5_dry_30 : decode cX5_dry 30 = .ok (.iload_n 1, 1) := by decide +kernel
theorem dX5_dry_31 : decode cX5_dry 31 = .ok (.bipush 10, 2) := by decide +kernel
theorem dX5_dry_33 : decode cX5_dry 33 = .ok (.invokevirtual 110, 3) := by decide +kernel
theorem dX5_dry_36 : decode cX5_dry 36 = .ok (.ireturn, 1) := by decide +kernel
set_option maxRecDepth 20000 in
theorem ggX5_when_X5_isHouse : GoodIn wsX5_when wsX5_isHouse := goodIn_r _ [7, 8, 9, 6, 10] (by decide +kernel) (by decide +kernel)
set_option maxRecDepth 20000 in
theorem gX5_when_X5_isHouse : GoodIn wsX5_when (va_wsS RX5 52 yX5_isHouse wsX5_isHouse) := goodIn_app (goodIn_of _ (by decide +kernel)) ggX5_when_X5_isHouse
set_option maxRecDepth 20000 in
theorem ggX5_when_X5_isUpTo : GoodIn wsX5_when wsX5_isUpTo := goodIn_r _ [10] (by decide +kernel) (by decide +kernel)
set_option maxRecDepth 20000 in
theorem gX5_when_X5_isUpTo : GoodIn wsX5_when (va_wsS RX5 56 yX5_isUpTo wsX5_isUpTo) := goodIn_app (goodIn_of _ (by decide +kernel)) ggX5_when_X5_isUpTo
set_option maxRecDepth 20000 in
theorem ggX5_when_X5_tell : GoodIn wsX5_when wsX5_tell := goodIn_r _ [14, 15, 16, 81, 82, 83, 84, 85, 86, 87, 88, 89] (by decide +kernel) (by decide +kernel)
set_option maxRecDepth 20000 in
theorem gX5_when_X5_tell : GoodIn wsX5_when (wsV RX5 64 RX5 yX5_tell wsX5_tell) := goodIn_app (goodIn_of _ (by decide +kernel)) ggX5_when_X5_tell
set_option maxRecDepth 20000 in
theorem ggX5_when_X1_become : GoodIn wsX5_when wsX1_become := goodIn_r _ [21, 22, 23, 24, 25, 26, 27, 28, 29, 30, 31, 32, 33, 34, 35, 36, 37, 90, 91, 92, 93, 94, 95, 96, 97, 98, 99, 100, 101] (by decide +kernel) (by decide +kernel)
set_option maxRecDepth 20000 in
theorem gX5_when_X1_become : GoodIn wsX5_when (wsV RX5 126 RX1 yX1_become wsX1_become) := goodIn_app (goodIn_of _ (by decide +kernel)) ggX5_when_X1_become
set_option maxRecDepth 20000 in
theorem ggX5_when_X1_passHour : GoodIn wsX5_when wsX1_passHour := goodIn_r _ [41, 33, 27, 31, 42, 43, 44, 45, 22, 46, 36, 47, 48, 49, 20, 50, 51, 34, 52, 53, 54, 55, 35, 56, 57, 58, 59, 28, 60, 61, 62, 63, 64, 65, 66, 67, 68, 69, 70, 29, 71, 72, 73, 74, 75, 76, 77, 78, 79, 80, 30, 90, 91, 92, 93, 94, 95, 96, 97, 98, 99, 100, 101] (by decide +kernel) (by decide +kernel)
set_option maxRecDepth 20000 in
theorem gX5_when_X1_passHour : GoodIn wsX5_when (wsV RX5 130 RX1 yX1_passHour wsX1_passHour) := goodIn_app (goodIn_of _ (by decide +kernel)) ggX5_when_X1_passHour
theorem dX5_when_0 : decode cX5_when 0 = .ok (.iload_n 1, 1) := by decide +kernel
theorem dX5_when_1 : decode cX5_when 1 = .ok (.invokestatic 52, 3) := by decide +kernel
theorem dX5_when_4 : decode cX5_when 4 = .ok (.ifCond .eq 13, 3) := by decide +kernel
theorem dX5_when_7 : decode cX5_when 7 = .ok (.iload_n 2, 1) := by decide +kernel
theorem dX5_when_8 : decode cX5_when 8 = .ok (.sipush 9999, 3) := by decide +kernel
theorem dX5_when_11 : decode cX5_when 11 = .ok (.invokestatic 56, 3) := by decide +kernel
theorem dX5_when_14 : decode cX5_when 14 = .ok (.ifCond .ne 9, 3) := by decide +kernel
theorem dX5_when_17 : decode cX5_when 17 = .ok (.aload_n 0, 1) := by decide +kernel
theorem dX5_when_18 : decode cX5_when 18 = .ok (.iconst 0, 1) := by decide +kernel
theorem dX5_when_19 : decode cX5_when 19 = .ok (.invokevirtual 64, 3) := by decide +kernel
theorem dX5_when_22 : decode cX5_when 22 = .ok (.ireturn, 1) := by decide +kernel
theorem dX5_when_23 : decode cX5_when 23 = .ok (.aload_n 0, 1) := by decide +kernel
theorem dX5_when_24 : decode cX5_when 24 = .ok (.getfield 19, 3) := by decide +kernel
theorem dX5_when_27 : decode cX5_when 27 = .ok (.aload_n 0, 1) := by decide +kernel
theorem dX5_when_28 : decode cX5_when 28 = .ok (.getfield 10, 3) := by decide +kernel
theorem dX5_when_31 : decode cX5_when 31 = .ok (.invokevirtual 126, 3) := by decide +kernel
theorem dX5_when_34 : decode cX5_when 34 = .ok (.iconst 0, 1) := by decide +kernel
theorem dX5_when_35 : decode cX5_when 35 = .ok (.istore_n 3, 1) := by decide +kernel
theorem dX5_when_36 : decode cX5_when 36 = .ok (.iload_n 3, 1) := by decide +kernel
theorem dX5_when_37 : decode cX5_when 37 = .ok (.bipush 100, 2) := by decide +kernel
theorem dX5_when_39 : decode cX5_when 39 = .ok (.if_icmp .gt 33, 3) := by decide +kernel
theorem dX5_when_42 : decode cX5_when 42 = .ok (.aload_n 0, 1) := by decide +kernel
theorem dX5_when_43 : decode cX5_when 43 = .ok (.getfield 19, 3) := by decide +kernel
theorem dX5_when_46 : decode cX5_when 46 = .ok (.getfield 103, 3) := by decide +kernel
theorem dX5_when_49 : decode cX5_when 49 = .ok (.iload_n 1, 1) := by decide +kernel
theorem dX5_when_50 : decode cX5_when 50 = .ok (.iaload, 1) := by decide +kernel
theorem dX5_when_51 : decode cX5_when 51 = .ok (.iload_n 2, 1) := by decide +kernel
theorem dX5_when_52 : decode cX5_when 52 = .ok (.if_icmp .lt 5, 3) := by decide +kernel
theorem dX5_when_55 : decode cX5_when 55 = .ok (.iload_n 3, 1) := by decide +kernel
theorem dX5_when_56 : decode cX5_when 56 = .ok (.ireturn, 1) := by decide +kernel
theorem dX5_when_57 : decode cX5_when 57 = .ok (.aload_n 0, 1) := by decide +kernel
theorem dX5_when_58 : decode cX5_when 58 = .ok (.getfield 19, 3) := by decide +kernel
theorem dX5_when_61 : decode cX5_when 61 = .ok (.iload_n 1, 1) := by decide +kernel
theorem dX5_when_62 : decode cX5_when 62 = .ok (.invokevirtual 130, 3) := by decide +kernel
theorem dX5_when_65 : decode cX5_when 65 = .ok (.pop, 1) := by decide +kernel
theorem dX5_when_66 : decode cX5_when 66 = .ok (.iinc 3 1, 3) := by decide +kernel
theorem dX5_when_69 : decode cX5_when 69 = .ok (.goto (-33), 3) := by decide +kernel
theorem dX5_when_72 : decode cX5_when 72 = .ok (.aload_n 0, 1) := by decide +kernel
theorem dX5_when_73 : decode cX5_when 73 = .ok (.iconst 3, 1) := by decide +kernel
theorem dX5_when_74 : decode cX5_when 74 = .ok (.invokevirtual 64, 3) := by decide +kernel
theorem dX5_when_77 : decode cX5_when 77 = .ok (.ireturn, 1) := by decide +kernel
set_option maxRecDepth 20000 in
theorem ggX5_settles_X1_become : GoodIn wsX5_settles wsX1_become := goodIn_r _ [13, 14, 15, 6, 7, 8, 16, 17, 18, 19, 20, 21, 22, 23, 24, 25, 26, 90, 91, 92, 93, 94, 95, 96, 97, 98, 99, 100, 101] (by decide +kernel) (by decide +kernel)
set_option maxRecDepth 20000 in
theorem gX5_settles_X1_become : GoodIn wsX5_settles (wsV RX5 126 RX1 yX1_become wsX1_become) := goodIn_app (goodIn_of _ (by decide +kernel)) ggX5_settles_X1_become
set_option maxRecDepth 20000 in
theorem ggX5_settles_X1_passHour : GoodIn wsX5_settles wsX1_passHour := goodIn_r _ [30, 22, 16, 20, 31, 32, 33, 34, 14, 35, 25, 36, 37, 38, 12, 39, 40, 23, 41, 42, 43, 44, 24, 45, 46, 47, 48, 17, 49, 50, 51, 52, 53, 54, 55, 56, 57, 58, 59, 18, 60, 61, 62, 63, 64, 65, 66, 67, 68, 69, 19, 90, 91, 92, 93, 94, 95, 96, 97, 98, 99, 100, 101] (by decide +kernel) (by decide +kernel)
set_option maxRecDepth 20000 in
theorem gX5_settles_X1_passHour : GoodIn wsX5_settles (wsV RX5 130 RX1 yX1_passHour wsX1_passHour) := goodIn_app (goodIn_of _ (by decide +kernel)) ggX5_settles_X1_passHour
set_option maxRecDepth 20000 in
theorem ggX5_settles_X5_isWaterAsBefore : GoodIn wsX5_settles wsX5_isWaterAsBefore := goodIn_r _ [74, 1, 3, 4, 81, 82, 83, 84, 85, 86, 87, 88, 89, 90, 91, 92, 93, 94, 95, 96, 97, 98, 99, 100, 101] (by decide +kernel) (by decide +kernel)
set_option maxRecDepth 20000 in
theorem gX5_settles_X5_isWaterAsBefore : GoodIn wsX5_settles (wsV RX5 139 RX5 yX5_isWaterAsBefore wsX5_isWaterAsBefore) := goodIn_app (goodIn_of _ (by decide +kernel)) ggX5_settles_X5_isWaterAsBefore
set_option maxRecDepth 20000 in
theorem ggX5_settles_X5_tell : GoodIn wsX5_settles wsX5_tell := goodIn_r _ [78, 79, 80, 81, 82, 83, 84, 85, 86, 87, 88, 89] (by decide +kernel) (by decide +kernel)
set_option maxRecDepth 20000 in
theorem gX5_settles_X5_tell : GoodIn wsX5_settles (wsV RX5 64 RX5 yX5_tell wsX5_tell) := goodIn_app (goodIn_of _ (by decide +kernel)) ggX5_settles_X5_tell
theorem dX5_settles_0 : decode cX5_settles 0 = .ok (.aload_n 0, 1) := by decide +kernel
theorem dX5_settles_1 : decode cX5_settles 1 = .ok (.getfield 19, 3) := by decide +kernel
theorem dX5_settles_4 : decode cX5_settles 4 = .ok (.aload_n 0, 1) := by decide +kernel
theorem dX5_settles_5 : decode cX5_settles 5 = .ok (.getfield 10, 3) := by decide +kernel
theorem dX5_settles_8 : decode cX5_settles 8 = .ok (.invokevirtual 126, 3) := by decide +kernel
theorem dX5_settles_11 : decode cX5_settles 11 = .ok (.iconst 0, 1) := by decide +kernel
theorem dX5_settles_12 : decode cX5_settles 12 = .ok (.istore_n 1, 1) := by decide +kernel
theorem dX5_settles_13 : decode cX5_settles 13 = .ok (.iload_n 1, 1) := by decide +kernel
theorem dX5_settles_14 : decode cX5_settles 14 = .ok (.bipush 100, 2) := by decide +kernel
theorem dX5_settles_16 : decode cX5_settles 16 = .ok (.if_icmp .gt 46, 3) := by decide +kernel
theorem dX5_settles_19 : decode cX5_settles 19 = .ok (.aload_n 0, 1) := by decide +kernel
theorem dX5_settles_20 : decode cX5_settles 20 = .ok (.getfield 19, 3) := by decide +kernel
theorem dX5_settles_23 : decode cX5_settles 23 = .ok (.getfield 103, 3) := by decide +kernel
theorem dX5_settles_26 : decode cX5_settles 26 = .ok (.iconst 0, 1) := by decide +kernel
theorem dX5_settles_27 : decode cX5_settles 27 = .ok (.aload_n 0, 1) := by decide +kernel
theorem dX5_settles_28 : decode cX5_settles 28 = .ok (.getfield 22, 3) := by decide +kernel
theorem dX5_settles_31 : decode cX5_settles 31 = .ok (.iconst 0, 1) := by decide +kernel
theorem dX5_settles_32 : decode cX5_settles 32 = .ok (.bipush 11, 2) := by decide +kernel
theorem dX5_settles_34 : decode cX5_settles 34 = .ok (.invokestatic 133, 3) := by decide +kernel
theorem dX5_settles_37 : decode cX5_settles 37 = .ok (.aload_n 0, 1) := by decide +kernel
theorem dX5_settles_38 : decode cX5_settles 38 = .ok (.getfield 19, 3) := by decide +kernel
theorem dX5_settles_41 : decode cX5_settles 41 = .ok (.bipush 10, 2) := by decide +kernel
theorem dX5_settles_43 : decode cX5_settles 43 = .ok (.invokevirtual 130, 3) := by decide +kernel
theorem dX5_settles_46 : decode cX5_settles 46 = .ok (.pop, 1) := by decide +kernel
theorem dX5_settles_47 : decode cX5_settles 47 = .ok (.aload_n 0, 1) := by decide +kernel
theorem dX5_settles_48 : decode cX5_settles 48 = .ok (.invokevirtual 139, 3) := by decide +kernel
theorem dX5_settles_51 : decode cX5_settles 51 = .ok (.ifCond .eq 5, 3) := by decide +kernel
theorem dX5_settles_54 : decode cX5_settles 54 = .ok (.iload_n 1, 1) := by decide +kernel
theorem dX5_settles_55 : decode cX5_settles 55 = .ok (.ireturn, 1) := by decide +kernel
theorem dX5_settles_56 : decode cX5_settles 56 = .ok (.iinc 1 1, 3) := by decide +kernel
theorem dX5_settles_59 : decode cX5_settles 59 = .ok (.goto (-46), 3) := by decide +kernel
theorem dX5_settles_62 : decode cX5_settles 62 = .ok (.aload_n 0, 1) := by decide +kernel
theorem dX5_settles_63 : decode cX5_settles 63 = .ok (.iconst 3, 1) := by decide +kernel
theorem dX5_settles_64 : decode cX5_settles 64 = .ok (.invokevirtual 64, 3) := by decide +kernel
theorem dX5_settles_67 : decode cX5_settles 67 = .ok (.ireturn, 1) := by decide +kernel
set_option maxRecDepth 20000 in
theorem ggX5_below_X5_isHouse : GoodIn wsX5_below wsX5_isHouse := goodIn_r _ [5, 6, 7, 4, 8] (by decide +kernel) (by decide +kernel)
set_option maxRecDepth 20000 in
theorem gX5_below_X5_isHouse : GoodIn wsX5_below (va_wsS RX5 52 yX5_isHouse wsX5_isHouse) := goodIn_app (goodIn_of _ (by decide +kernel)) ggX5_below_X5_isHouse
set_option maxRecDepth 20000 in
theorem ggX5_below_X5_tell : GoodIn wsX5_below wsX5_tell := goodIn_r _ [12, 13, 14, 21, 22, 23, 24, 25, 26, 27, 28, 29] (by decide +kernel) (by decide +kernel)
set_option maxRecDepth 20000 in
theorem gX5_below_X5_tell : GoodIn wsX5_below (wsV RX5 64 RX5 yX5_tell wsX5_tell) := goodIn_app (goodIn_of _ (by decide +kernel)) ggX5_below_X5_tell
set_option maxRecDepth 20000 in
theorem ggX5_below_X1_leadsTo : GoodIn wsX5_below wsX1_leadsTo := goodIn_r _ [19, 20, 30, 31, 32, 33, 34, 35, 36, 37, 38, 39, 40, 41] (by decide +kernel) (by decide +kernel)
set_option maxRecDepth 20000 in
theorem gX5_below_X1_leadsTo : GoodIn wsX5_below (wsV RX5 85 RX1 yX1_leadsTo wsX1_leadsTo) := goodIn_app (goodIn_of _ (by decide +kernel)) ggX5_below_X1_leadsTo
theorem dX5_below_0 : decode cX5_below 0 = .ok (.iload_n 1, 1) := by decide +kernel
theorem dX5_below_1 : decode cX5_below 1 = .ok (.invokestatic 52, 3) := by decide +kernel
theorem dX5_below_4 : decode cX5_below 4 = .ok (.ifCond .ne 9, 3) := by decide +kernel
theorem dX5_below_7 : decode cX5_below 7 = .ok (.aload_n 0, 1) := by decide +kernel
theorem dX5_below_8 : decode cX5_below 8 = .ok (.iconst 0, 1) := by decide +kernel
theorem dX5_below_9 : decode cX5_below 9 = .ok (.invokevirtual 64, 3) := by decide +kernel
theorem dX5_below_12 : decode cX5_below 12 = .ok (.ireturn, 1) := by decide +kernel
theorem dX5_below_13 : decode cX5_below 13 = .ok (.iconst 0, 1) := by decide +kernel
theorem dX5_below_14 : decode cX5_below 14 = .ok (.istore_n 2, 1) := by decide +kernel
theorem dX5_below_15 : decode cX5_below 15 = .ok (.iload_n 1, 1) := by decide +kernel
theorem dX5_below_16 : decode cX5_below 16 = .ok (.istore_n 3, 1) := by decide +kernel
theorem dX5_below_17 : decode cX5_below 17 = .ok (.iconst 0, 1) := by decide +kernel
theorem dX5_below_18 : decode cX5_below 18 = .ok (.istore 4, 2) := by decide +kernel
theorem dX5_below_20 : decode cX5_below 20 = .ok (.iload 4, 2) := by decide +kernel
theorem dX5_below_22 : decode cX5_below 22 = .ok (.bipush 11, 2) := by decide +kernel
theorem dX5_below_24 : decode cX5_below 24 = .ok (.if_icmp .ge 29, 3) := by decide +kernel
theorem dX5_below_27 : decode cX5_below 27 = .ok (.iload_n 3, 1) := by decide +kernel
theorem dX5_below_28 : decode cX5_below 28 = .ok (.iconst (-1), 1) := by decide +kernel
theorem dX5_below_29 : decode cX5_below 29 = .ok (.if_icmp .eq 24, 3) := by decide +kernel
theorem dX5_below_32 : decode cX5_below 32 = .ok (.iload_n 2, 1) := by decide +kernel
theorem dX5_below_33 : decode cX5_below 33 = .ok (.iconst 1, 1) := by decide +kernel
theorem dX5_below_34 : decode cX5_below 34 = .ok (.iload_n 3, 1) := by decide +kernel
theorem dX5_below_35 : decode cX5_below 35 = .ok (.ishl, 1) := by decide +kernel
theorem dX5_below_36 : decode cX5_below 36 = .ok (.ior, 1) := by decide +kernel
theorem dX5_below_37 : decode cX5_below 37 = .ok (.istore_n 2, 1) := by decide +kernel
theorem dX5_below_38 : decode cX5_below 38 = .ok (.aload_n 0, 1) := by decide +kernel
theorem dX5_below_39 : decode cX5_below 39 = .ok (.getfield 10, 3) := by decide +kernel
theorem dX5_below_42 : decode cX5_below 42 = .ok (.iload_n 3, 1) := by decide +kernel
theorem dX5_below_43 : decode cX5_below 43 = .ok (.invokevirtual 85, 3) := by decide +kernel
theorem dX5_below_46 : decode cX5_below 46 = .ok (.istore_n 3, 1) := by decide +kernel
theorem dX5_below_47 : decode cX5_below 47 = .ok (.iinc 4 1, 3) := by decide +kernel
theorem dX5_below_50 : decode cX5_below 50 = .ok (.goto (-30), 3) := by decide +kernel
theorem dX5_below_53 : decode cX5_below 53 = .ok (.iload_n 2, 1) := by decide +kernel
theorem dX5_below_54 : decode cX5_below 54 = .ok (.ireturn, 1) := by decide +kernel
set_option maxRecDepth 20000 in
theorem ggX5_rainFor_X5_isHouse : GoodIn wsX5_rainFor wsX5_isHouse := goodIn_r _ [4, 5, 6, 3, 7] (by decide +kernel) (by decide +kernel)
set_option maxRecDepth 20000 in
theorem gX5_rainFor_X5_isHouse : GoodIn wsX5_rainFor (va_wsS RX5 52 yX5_isHouse wsX5_isHouse) := goodIn_app (goodIn_of _ (by decide +kernel)) ggX5_rainFor_X5_isHouse
set_option maxRecDepth 20000 in
theorem ggX5_rainFor_X5_isUpTo : GoodIn wsX5_rainFor wsX5_isUpTo := goodIn_r _ [7] (by decide +kernel) (by decide +kernel)
set_option maxRecDepth 20000 in
theorem gX5_rainFor_X5_isUpTo : GoodIn wsX5_rainFor (va_wsS RX5 56 yX5_isUpTo wsX5_isUpTo) := goodIn_app (goodIn_of _ (by decide +kernel)) ggX5_rainFor_X5_isUpTo
set_option maxRecDepth 20000 in
theorem ggX5_rainFor_X5_tell : GoodIn wsX5_rainFor wsX5_tell := goodIn_r _ [11, 12, 13, 101, 102, 103, 104, 105, 106, 107, 108, 109] (by decide +kernel) (by decide +kernel)
set_option maxRecDepth 20000 in
theorem gX5_rainFor_X5_tell : GoodIn wsX5_rainFor (wsV RX5 64 RX5 yX5_tell wsX5_tell) := goodIn_app (goodIn_of _ (by decide +kernel)) ggX5_rainFor_X5_tell
set_option maxRecDepth 20000 in
theorem ggX5_rainFor_X5_leastFor : GoodIn wsX5_rainFor wsX5_leastFor := goodIn_r _ [17, 18, 19, 20, 3, 21, 22, 23, 24, 25, 26, 27, 28, 29, 30, 31, 32, 33, 34, 35, 36, 37, 38, 39, 40, 41, 42, 43, 44, 45, 46, 47, 48, 49, 50, 51, 52, 53, 54, 55, 56, 57, 58, 59, 60, 61, 62, 63, 64, 65, 66, 67, 68, 69, 70, 71, 72, 73, 74, 75, 76, 77, 78, 79, 80, 81, 82, 83, 84, 85, 86, 87, 88, 89, 90, 91, 92, 93, 94, 95, 96, 97, 98, 99, 100, 8, 9, 10, 11, 12, 13, 101, 102, 103, 104, 105, 106, 107, 108, 109, 110, 111, 112, 113, 114, 115, 116, 117, 118, 119, 120, 121] (by decide +kernel) (by decide +kernel)
set_option maxRecDepth 20000 in
theorem gX5_rainFor_X5_leastFor : GoodIn wsX5_rainFor (wsV RX5 143 RX5 yX5_leastFor wsX5_leastFor) := goodIn_app (goodIn_of _ (by decide +kernel)) ggX5_rainFor_X5_leastFor
theorem dX5_rainFor_0 : decode cX5_rainFor 0 = .ok (.iload_n 1, 1) := by decide +kernel
theorem dX5_rainFor_1 : decode cX5_rainFor 1 = .ok (.invokestatic 52, 3) := by decide +kernel
theorem dX5_rainFor_4 : decode cX5_rainFor 4 = .ok (.ifCond .eq 12, 3) := by decide +kernel
theorem dX5_rainFor_7 : decode cX5_rainFor 7 = .ok (.iload_n 2, 1) := by decide +kernel
theorem dX5_rainFor_8 : decode cX5_rainFor 8 = .ok (.bipush 40, 2) := by decide +kernel
theorem dX5_rainFor_10 : decode cX5_rainFor 10 = .ok (.invokestatic 56, 3) := by decide +kernel
theorem dX5_rainFor_13 : decode cX5_rainFor 13 = .ok (.ifCond .ne 9, 3) := by decide +kernel
theorem dX5_rainFor_16 : decode cX5_rainFor 16 = .ok (.aload_n 0, 1) := by decide +kernel
theorem dX5_rainFor_17 : decode cX5_rainFor 17 = .ok (.iconst 0, 1) := by decide +kernel
theorem dX5_rainFor_18 : decode cX5_rainFor 18 = .ok (.invokevirtual 64, 3) := by decide +kernel
theorem dX5_rainFor_21 : decode cX5_rainFor 21 = .ok (.ireturn, 1) := by decide +kernel
theorem dX5_rainFor_22 : decode cX5_rainFor 22 = .ok (.aload_n 0, 1) := by decide +kernel
theorem dX5_rainFor_23 : decode cX5_rainFor 23 = .ok (.bipush 6, 2) := by decide +kernel
theorem dX5_rainFor_25 : decode cX5_rainFor 25 = .ok (.sipush 999, 3) := by decide +kernel
theorem dX5_rainFor_28 : decode cX5_rainFor 28 = .ok (.iload_n 1, 1) := by decide +kernel
theorem dX5_rainFor_29 : decode cX5_rainFor 29 = .ok (.iload_n 2, 1) := by decide +kernel
theorem dX5_rainFor_30 : decode cX5_rainFor 30 = .ok (.invokevirtual 143, 3) := by decide +kernel
theorem dX5_rainFor_33 : decode cX5_rainFor 33 = .ok (.ireturn, 1) := by decide +kernel
set_option maxRecDepth 20000 in
theorem ggX5_holdsFor_X5_isHouse : GoodIn wsX5_holdsFor wsX5_isHouse := goodIn_r _ [4, 5, 6, 3, 7] (by decide +kernel) (by decide +kernel)
set_option maxRecDepth 20000 in
theorem gX5_holdsFor_X5_isHouse : GoodIn wsX5_holdsFor (va_wsS RX5 52 yX5_isHouse wsX5_isHouse) := goodIn_app (goodIn_of _ (by decide +kernel)) ggX5_holdsFor_X5_isHouse
set_option maxRecDepth 20000 in
theorem ggX5_holdsFor_X5_isUpTo : GoodIn wsX5_holdsFor wsX5_isUpTo := goodIn_r _ [7] (by decide +kernel) (by decide +kernel)
set_option maxRecDepth 20000 in
theorem gX5_holdsFor_X5_isUpTo : GoodIn wsX5_holdsFor (va_wsS RX5 56 yX5_isUpTo wsX5_isUpTo) := goodIn_app (goodIn_of _ (by decide +kernel)) ggX5_holdsFor_X5_isUpTo
set_option maxRecDepth 20000 in
theorem ggX5_holdsFor_X5_tell : GoodIn wsX5_holdsFor wsX5_tell := goodIn_r _ [11, 12, 13, 101, 102, 103, 104, 105, 106, 107, 108, 109] (by decide +kernel) (by decide +kernel)
set_option maxRecDepth 20000 in
theorem gX5_holdsFor_X5_tell : GoodIn wsX5_holdsFor (wsV RX5 64 RX5 yX5_tell wsX5_tell) := goodIn_app (goodIn_of _ (by decide +kernel)) ggX5_holdsFor_X5_tell
set_option maxRecDepth 20000 in
theorem ggX5_holdsFor_X5_leastFor : GoodIn wsX5_holdsFor wsX5_leastFor := goodIn_r _ [17, 18, 19, 20, 3, 21, 22, 23, 24, 25, 26, 27, 28, 29, 30, 31, 32, 33, 34, 35, 36, 37, 38, 39, 40, 41, 42, 43, 44, 45, 46, 47, 48, 49, 50, 51, 52, 53, 54, 55, 56, 57, 58, 59, 60, 61, 62, 63, 64, 65, 66, 67, 68, 69, 70, 71, 72, 73, 74, 75, 76, 77, 78, 79, 80, 81, 82, 83, 84, 85, 86, 87, 88, 89, 90, 91, 92, 93, 94, 95, 96, 97, 98, 99, 100, 8, 9, 10, 11, 12, 13, 101, 102, 103, 104, 105, 106, 107, 108, 109, 110, 111, 112, 113, 114, 115, 116, 117, 118, 119, 120, 121] (by decide +kernel) (by decide +kernel)
set_option maxRecDepth 20000 in
theorem gX5_holdsFor_X5_leastFor : GoodIn wsX5_holdsFor (wsV RX5 143 RX5 yX5_leastFor wsX5_leastFor) := goodIn_app (goodIn_of _ (by decide +kernel)) ggX5_holdsFor_X5_leastFor
theorem dX5_holdsFor_0 : decode cX5_holdsFor 0 = .ok (.iload_n 1, 1) := by decide +kernel
theorem dX5_holdsFor_1 : decode cX5_holdsFor 1 = .ok (.invokestatic 52, 3) := by decide +kernel
theorem dX5_holdsFor_4 : decode cX5_holdsFor 4 = .ok (.ifCond .eq 12, 3) := by decide +kernel
theorem dX5_holdsFor_7 : decode cX5_holdsFor 7 = .ok (.iload_n 2, 1) := by decide +kernel
theorem dX5_holdsFor_8 : decode cX5_holdsFor 8 = .ok (.bipush 40, 2) := by decide +kernel
theorem dX5_holdsFor_10 : decode cX5_holdsFor 10 = .ok (.invokestatic 56, 3) := by decide +kernel
theorem dX5_holdsFor_13 : decode cX5_holdsFor 13 = .ok (.ifCond .ne 9, 3) := by decide +kernel
theorem dX5_holdsFor_16 : decode cX5_holdsFor 16 = .ok (.aload_n 0, 1) := by decide +kernel
theorem dX5_holdsFor_17 : decode cX5_holdsFor 17 = .ok (.iconst 0, 1) := by decide +kernel
theorem dX5_holdsFor_18 : decode cX5_holdsFor 18 = .ok (.invokevirtual 64, 3) := by decide +kernel
theorem dX5_holdsFor_21 : decode cX5_holdsFor 21 = .ok (.ireturn, 1) := by decide +kernel
theorem dX5_holdsFor_22 : decode cX5_holdsFor 22 = .ok (.aload_n 0, 1) := by decide +kernel
theorem dX5_holdsFor_23 : decode cX5_holdsFor 23 = .ok (.iconst 3, 1) := by decide +kernel
theorem dX5_holdsFor_24 : decode cX5_holdsFor 24 = .ok (.sipush 200, 3) := by decide +kernel
theorem dX5_holdsFor_27 : decode cX5_holdsFor 27 = .ok (.iload_n 1, 1) := by decide +kernel
theorem dX5_holdsFor_28 : decode cX5_holdsFor 28 = .ok (.iload_n 2, 1) := by decide +kernel
theorem dX5_holdsFor_29 : decode cX5_holdsFor 29 = .ok (.invokevirtual 143, 3) := by decide +kernel
theorem dX5_holdsFor_32 : decode cX5_holdsFor 32 = .ok (.ireturn, 1) := by decide +kernel
set_option maxRecDepth 20000 in
theorem ggX5_needFor_X5_isHouse : GoodIn wsX5_needFor wsX5_isHouse := goodIn_r _ [4, 5, 6, 3, 7] (by decide +kernel) (by decide +kernel)
set_option maxRecDepth 20000 in
theorem gX5_needFor_X5_isHouse : GoodIn wsX5_needFor (va_wsS RX5 52 yX5_isHouse wsX5_isHouse) := goodIn_app (goodIn_of _ (by decide +kernel)) ggX5_needFor_X5_isHouse
set_option maxRecDepth 20000 in
theorem ggX5_needFor_X5_isUpTo : GoodIn wsX5_needFor wsX5_isUpTo := goodIn_r _ [7] (by decide +kernel) (by decide +kernel)
set_option maxRecDepth 20000 in
theorem gX5_needFor_X5_isUpTo : GoodIn wsX5_needFor (va_wsS RX5 56 yX5_isUpTo wsX5_isUpTo) := goodIn_app (goodIn_of _ (by decide +kernel)) ggX5_needFor_X5_isUpTo
set_option maxRecDepth 20000 in
theorem ggX5_needFor_X5_tell : GoodIn wsX5_needFor wsX5_tell := goodIn_r _ [11, 12, 13, 97, 98, 99, 100, 101, 102, 103, 104, 105] (by decide +kernel) (by decide +kernel)
set_option maxRecDepth 20000 in
theorem gX5_needFor_X5_tell : GoodIn wsX5_needFor (wsV RX5 64 RX5 yX5_tell wsX5_tell) := goodIn_app (goodIn_of _ (by decide +kernel)) ggX5_needFor_X5_tell
set_option maxRecDepth 20000 in
theorem ggX5_needFor_X5_staysWetWith : GoodIn wsX5_needFor wsX5_staysWetWith := goodIn_r _ [17, 18, 19, 20, 21, 3, 22, 23, 24, 25, 26, 27, 28, 29, 30, 31, 32, 33, 34, 35, 36, 37, 38, 39, 40, 41, 42, 43, 44, 45, 46, 47, 48, 49, 50, 51, 52, 53, 54, 55, 56, 57, 58, 59, 60, 61, 62, 63, 64, 65, 66, 67, 68, 69, 70, 71, 72, 73, 74, 75, 76, 77, 78, 79, 80, 81, 82, 83, 84, 85, 86, 87, 88, 89, 90, 91, 92, 93, 94, 95, 96, 97, 98, 99, 100, 101, 102, 103, 104, 105, 106, 107, 108, 109, 110, 111, 112, 113, 114, 115, 116, 117] (by decide +kernel) (by decide +kernel)
set_option maxRecDepth 20000 in
theorem gX5_needFor_X5_staysWetWith : GoodIn wsX5_needFor (wsV RX5 147 RX5 yX5_staysWetWith wsX5_staysWetWith) := goodIn_app (goodIn_of _ (by decide +kernel)) ggX5_needFor_X5_staysWetWith
theorem dX5_needFor_0 : decode cX5_needFor 0 = .ok (.iload_n 1, 1) := by decide +kernel
theorem dX5_needFor_1 : decode cX5_needFor 1 = .ok (.invokestatic 52, 3) := by decide +kernel
theorem dX5_needFor_4 : decode cX5_needFor 4 = .ok (.ifCond .eq 12, 3) := by decide +kernel
theorem dX5_needFor_7 : decode cX5_needFor 7 = .ok (.iload_n 2, 1) := by decide +kernel
theorem dX5_needFor_8 : decode cX5_needFor 8 = .ok (.bipush 40, 2) := by decide +kernel
theorem dX5_needFor_10 : decode cX5_needFor 10 = .ok (.invokestatic 56, 3) := by decide +kernel
theorem dX5_needFor_13 : decode cX5_needFor 13 = .ok (.ifCond .ne 9, 3) := by decide +kernel
theorem dX5_needFor_16 : decode cX5_needFor 16 = .ok (.aload_n 0, 1) := by decide +kernel
theorem dX5_needFor_17 : decode cX5_needFor 17 = .ok (.iconst 0, 1) := by decide +kernel
theorem dX5_needFor_18 : decode cX5_needFor 18 = .ok (.invokevirtual 64, 3) := by decide +kernel
theorem dX5_needFor_21 : decode cX5_needFor 21 = .ok (.ireturn, 1) := by decide +kernel
theorem dX5_needFor_22 : decode cX5_needFor 22 = .ok (.bipush 99, 2) := by decide +kernel
theorem dX5_needFor_24 : decode cX5_needFor 24 = .ok (.istore_n 3, 1) := by decide +kernel
theorem dX5_needFor_25 : decode cX5_needFor 25 = .ok (.iload_n 3, 1) := by decide +kernel
theorem dX5_needFor_26 : decode cX5_needFor 26 = .ok (.ifCond .lt 22, 3) := by decide +kernel
theorem dX5_needFor_29 : decode cX5_needFor 29 = .ok (.aload_n 0, 1) := by decide +kernel
theorem dX5_needFor_30 : decode cX5_needFor 30 = .ok (.iconst 2, 1) := by decide +kernel
theorem dX5_needFor_31 : decode cX5_needFor 31 = .ok (.iload_n 3, 1) := by decide +kernel
theorem dX5_needFor_32 : decode cX5_needFor 32 = .ok (.iload_n 1, 1) := by decide +kernel
theorem dX5_needFor_33 : decode cX5_needFor 33 = .ok (.iload_n 2, 1) := by decide +kernel
theorem dX5_needFor_34 : decode cX5_needFor 34 = .ok (.invokevirtual 147, 3) := by decide +kernel
theorem dX5_needFor_37 : decode cX5_needFor 37 = .ok (.ifCond .eq 5, 3) := by decide +kernel
theorem dX5_needFor_40 : decode cX5_needFor 40 = .ok (.iload_n 3, 1) := by decide +kernel
theorem dX5_needFor_41 : decode cX5_needFor 41 = .ok (.ireturn, 1) := by decide +kernel
theorem dX5_needFor_42 : decode cX5_needFor 42 = .ok (.iinc 3 (-1), 3) := by decide +kernel
theorem dX5_needFor_45 : decode cX5_needFor 45 = .ok (.goto (-20), 3) := by decide +kernel
theorem dX5_needFor_48 : decode cX5_needFor 48 = .ok (.aload_n 0, 1) := by decide +kernel
theorem dX5_needFor_49 : decode cX5_needFor 49 = .ok (.iconst 3, 1) := by decide +kernel
theorem dX5_needFor_50 : decode cX5_needFor 50 = .ok (.invokevirtual 64, 3) := by decide +kernel
theorem dX5_needFor_53 : decode cX5_needFor 53 = .ok (.ireturn, 1) := by decide +kernel
set_option maxRecDepth 20000 in
theorem ggX5_kindsFor_X5_isHouse : GoodIn wsX5_kindsFor wsX5_isHouse := goodIn_r _ [4, 5, 6, 3, 7] (by decide +kernel) (by decide +kernel)
set_option maxRecDepth 20000 in
theorem gX5_kindsFor_X5_isHouse : GoodIn wsX5_kindsFor (va_wsS RX5 52 yX5_isHouse wsX5_isHouse) := goodIn_app (goodIn_of _ (by decide +kernel)) ggX5_kindsFor_X5_isHouse
set_option maxRecDepth 20000 in
theorem ggX5_kindsFor_X5_isUpTo : GoodIn wsX5_kindsFor wsX5_isUpTo := goodIn_r _ [7] (by decide +kernel) (by decide +kernel)
set_option maxRecDepth 20000 in
theorem gX5_kindsFor_X5_isUpTo : GoodIn wsX5_kindsFor (va_wsS RX5 56 yX5_isUpTo wsX5_isUpTo) := goodIn_app (goodIn_of _ (by decide +kernel)) ggX5_kindsFor_X5_isUpTo
set_option maxRecDepth 20000 in
theorem ggX5_kindsFor_X5_tell : GoodIn wsX5_kindsFor wsX5_tell := goodIn_r _ [11, 12, 13, 97, 98, 99, 100, 101, 102, 103, 104, 105] (by decide +kernel) (by decide +kernel)
set_option maxRecDepth 20000 in
theorem gX5_kindsFor_X5_tell : GoodIn wsX5_kindsFor (wsV RX5 64 RX5 yX5_tell wsX5_tell) := goodIn_app (goodIn_of _ (by decide +kernel)) ggX5_kindsFor_X5_tell
set_option maxRecDepth 20000 in
theorem ggX5_kindsFor_X5_staysWetWith : GoodIn wsX5_kindsFor wsX5_staysWetWith := goodIn_r _ [17, 18, 19, 20, 21, 3, 22, 23, 24, 25, 26, 27, 28, 29, 30, 31, 32, 33, 34, 35, 36, 37, 38, 39, 40, 41, 42, 43, 44, 45, 46, 47, 48, 49, 50, 51, 52, 53, 54, 55, 56, 57, 58, 59, 60, 61, 62, 63, 64, 65, 66, 67, 68, 69, 70, 71, 72, 73, 74, 75, 76, 77, 78, 79, 80, 81, 82, 83, 84, 85, 86, 87, 88, 89, 90, 91, 92, 93, 94, 95, 96, 97, 98, 99, 100, 101, 102, 103, 104, 105, 106, 107, 108, 109, 110, 111, 112, 113, 114, 115, 116, 117] (by decide +kernel) (by decide +kernel)
set_option maxRecDepth 20000 in
theorem gX5_kindsFor_X5_staysWetWith : GoodIn wsX5_kindsFor (wsV RX5 147 RX5 yX5_staysWetWith wsX5_staysWetWith) := goodIn_app (goodIn_of _ (by decide +kernel)) ggX5_kindsFor_X5_staysWetWith
theorem dX5_kindsFor_0 : decode cX5_kindsFor 0 = .ok (.iload_n 1, 1) := by decide +kernel
theorem dX5_kindsFor_1 : decode cX5_kindsFor 1 = .ok (.invokestatic 52, 3) := by decide +kernel
theorem dX5_kindsFor_4 : decode cX5_kindsFor 4 = .ok (.ifCond .eq 12, 3) := by decide +kernel
theorem dX5_kindsFor_7 : decode cX5_kindsFor 7 = .ok (.iload_n 2, 1) := by decide +kernel
theorem dX5_kindsFor_8 : decode cX5_kindsFor 8 = .ok (.bipush 40, 2) := by decide +kernel
theorem dX5_kindsFor_10 : decode cX5_kindsFor 10 = .ok (.invokestatic 56, 3) := by decide +kernel
theorem dX5_kindsFor_13 : decode cX5_kindsFor 13 = .ok (.ifCond .ne 9, 3) := by decide +kernel
theorem dX5_kindsFor_16 : decode cX5_kindsFor 16 = .ok (.aload_n 0, 1) := by decide +kernel
theorem dX5_kindsFor_17 : decode cX5_kindsFor 17 = .ok (.iconst 0, 1) := by decide +kernel
theorem dX5_kindsFor_18 : decode cX5_kindsFor 18 = .ok (.invokevirtual 64, 3) := by decide +kernel
theorem dX5_kindsFor_21 : decode cX5_kindsFor 21 = .ok (.ireturn, 1) := by decide +kernel
theorem dX5_kindsFor_22 : decode cX5_kindsFor 22 = .ok (.iconst 0, 1) := by decide +kernel
theorem dX5_kindsFor_23 : decode cX5_kindsFor 23 = .ok (.istore_n 3, 1) := by decide +kernel
theorem dX5_kindsFor_24 : decode cX5_kindsFor 24 = .ok (.iconst 0, 1) := by decide +kernel
theorem dX5_kindsFor_25 : decode cX5_kindsFor 25 = .ok (.istore 4, 2) := by decide +kernel
theorem dX5_kindsFor_27 : decode cX5_kindsFor 27 = .ok (.iload 4, 2) := by decide +kernel
theorem dX5_kindsFor_29 : decode cX5_kindsFor 29 = .ok (.bipush 7, 2) := by decide +kernel
theorem dX5_kindsFor_31 : decode cX5_kindsFor 31 = .ok (.if_icmp .ge 28, 3) := by decide +kernel
theorem dX5_kindsFor_34 : decode cX5_kindsFor 34 = .ok (.aload_n 0, 1) := by decide +kernel
theorem dX5_kindsFor_35 : decode cX5_kindsFor 35 = .ok (.iconst 0, 1) := by decide +kernel
theorem dX5_kindsFor_36 : decode cX5_kindsFor 36 = .ok (.iload 4, 2) := by decide +kernel
theorem dX5_kindsFor_38 : decode cX5_kindsFor 38 = .ok (.iload_n 1, 1) := by decide +kernel
theorem dX5_kindsFor_39 : decode cX5_kindsFor 39 = .ok (.iload_n 2, 1) := by decide +kernel
theorem dX5_kindsFor_40 : decode cX5_kindsFor 40 = .ok (.invokevirtual 147, 3) := by decide +kernel
theorem dX5_kindsFor_43 : decode cX5_kindsFor 43 = .ok (.ifCond .eq 10, 3) := by decide +kernel
theorem dX5_kindsFor_46 : decode cX5_kindsFor 46 = .ok (.iload_n 3, 1) := by decide +kernel
theorem dX5_kindsFor_47 : decode cX5_kindsFor 47 = .ok (.iconst 1, 1) := by decide +kernel
theorem dX5_kindsFor_48 : decode cX5_kindsFor 48 = .ok (.iload 4, 2) := by decide +kernel
theorem dX5_kindsFor_50 : decode cX5_kindsFor 50 = .ok (.ishl, 1) := by decide +kernel
theorem dX5_kindsFor_51 : decode cX5_kindsFor 51 = .ok (.ior, 1) := by decide +kernel
theorem dX5_kindsFor_52 : decode cX5_kindsFor 52 = .ok (.istore_n 3, 1) := by decide +kernel
theorem dX5_kindsFor_53 : decode cX5_kindsFor 53 = .ok (.iinc 4 1, 3) := by decide +kernel
theorem dX5_kindsFor_56 : decode cX5_kindsFor 56 = .ok (.goto (-29), 3) := by decide +kernel
theorem dX5_kindsFor_59 : decode cX5_kindsFor 59 = .ok (.iload_n 3, 1) := by decide +kernel
theorem dX5_kindsFor_60 : decode cX5_kindsFor 60 = .ok (.ireturn, 1) := by decide +kernel
set_option maxRecDepth 20000 in
theorem ggX5_kindFor_X5_isHouse : GoodIn wsX5_kindFor wsX5_isHouse := goodIn_r _ [6, 7, 8, 5, 9] (by decide +kernel) (by decide +kernel)
set_option maxRecDepth 20000 in
theorem gX5_kindFor_X5_isHouse : GoodIn wsX5_kindFor (va_wsS RX5 52 yX5_isHouse wsX5_isHouse) := goodIn_app (goodIn_of _ (by decide +kernel)) ggX5_kindFor_X5_isHouse
set_option maxRecDepth 20000 in
theorem ggX5_kindFor_X5_isUpTo : GoodIn wsX5_kindFor wsX5_isUpTo := goodIn_r _ [9] (by decide +kernel) (by decide +kernel)
set_option maxRecDepth 20000 in
theorem gX5_kindFor_X5_isUpTo : GoodIn wsX5_kindFor (va_wsS RX5 56 yX5_isUpTo wsX5_isUpTo) := goodIn_app (goodIn_of _ (by decide +kernel)) ggX5_kindFor_X5_isUpTo
set_option maxRecDepth 20000 in
theorem ggX5_kindFor_X5_tell : GoodIn wsX5_kindFor wsX5_tell := goodIn_r _ [13, 14, 15, 94, 95, 96, 97, 98, 99, 100, 101, 102] (by decide +kernel) (by decide +kernel)
set_option maxRecDepth 20000 in
theorem gX5_kindFor_X5_tell : GoodIn wsX5_kindFor (wsV RX5 64 RX5 yX5_tell wsX5_tell) := goodIn_app (goodIn_of _ (by decide +kernel)) ggX5_kindFor_X5_tell
set_option maxRecDepth 20000 in
theorem ggX5_kindFor_X5_tryWith : GoodIn wsX5_kindFor wsX5_tryWith := goodIn_r _ [19, 1, 20, 21, 22, 23, 24, 25, 26, 27, 28, 29, 30, 31, 32, 33, 34, 35, 36, 37, 38, 39, 40, 41, 42, 43, 44, 45, 46, 94, 95, 96, 97, 98, 99, 100, 101, 102, 103, 104, 105, 106, 107, 108, 109, 110, 111, 112, 113, 114] (by decide +kernel) (by decide +kernel)
set_option maxRecDepth 20000 in
theorem gX5_kindFor_X5_tryWith : GoodIn wsX5_kindFor (wsV RX5 151 RX5 yX5_tryWith wsX5_tryWith) := goodIn_app (goodIn_of _ (by decide +kernel)) ggX5_kindFor_X5_tryWith
set_option maxRecDepth 20000 in
theorem ggX5_kindFor_X1_passHours : GoodIn wsX5_kindFor wsX1_passHours := goodIn_r _ [50, 51, 52, 53, 25, 54, 38, 32, 36, 55, 56, 57, 58, 27, 59, 41, 60, 61, 62, 63, 64, 39, 65, 66, 67, 68, 40, 69, 70, 71, 72, 33, 73, 74, 75, 76, 77, 78, 79, 80, 81, 82, 83, 34, 84, 85, 86, 87, 88, 89, 90, 91, 92, 93, 35, 103, 104, 105, 106, 107, 108, 109, 110, 111, 112, 113, 114] (by decide +kernel) (by decide +kernel)
set_option maxRecDepth 20000 in
theorem gX5_kindFor_X1_passHours : GoodIn wsX5_kindFor (wsV RX5 110 RX1 yX1_passHours wsX1_passHours) := goodIn_app (goodIn_of _ (by decide +kernel)) ggX5_kindFor_X1_passHours
theorem dX5_kindFor_0 : decode cX5_kindFor 0 = .ok (.iload_n 1, 1) := by decide +kernel
theorem dX5_kindFor_1 : decode cX5_kindFor 1 = .ok (.invokestatic 52, 3) := by decide +kernel
theorem dX5_kindFor_4 : decode cX5_kindFor 4 = .ok (.ifCond .eq 12, 3) := by decide +kernel
theorem dX5_kindFor_7 : decode cX5_kindFor 7 = .ok (.iload_n 2, 1) := by decide +kernel
theorem dX5_kindFor_8 : decode cX5_kindFor 8 = .ok (.bipush 40, 2) := by decide +kernel
theorem dX5_kindFor_10 : decode cX5_kindFor 10 = .ok (.invokestatic 56, 3) := by decide +kernel
theorem dX5_kindFor_13 : decode cX5_kindFor 13 = .ok (.ifCond .ne 9, 3) := by decide +kernel
theorem dX5_kindFor_16 : decode cX5_kindFor 16 = .ok (.aload_n 0, 1) := by decide +kernel
theorem dX5_kindFor_17 : decode cX5_kindFor 17 = .ok (.iconst 0, 1) := by decide +kernel
theorem dX5_kindFor_18 : decode cX5_kindFor 18 = .ok (.invokevirtual 64, 3) := by decide +kernel
theorem dX5_kindFor_21 : decode cX5_kindFor 21 = .ok (.ireturn, 1) := by decide +kernel
theorem dX5_kindFor_22 : decode cX5_kindFor 22 = .ok (.iconst (-1), 1) := by decide +kernel
theorem dX5_kindFor_23 : decode cX5_kindFor 23 = .ok (.istore_n 3, 1) := by decide +kernel
theorem dX5_kindFor_24 : decode cX5_kindFor 24 = .ok (.iconst 0, 1) := by decide +kernel
theorem dX5_kindFor_25 : decode cX5_kindFor 25 = .ok (.istore 4, 2) := by decide +kernel
theorem dX5_kindFor_27 : decode cX5_kindFor 27 = .ok (.iconst 0, 1) := by decide +kernel
theorem dX5_kindFor_28 : decode cX5_kindFor 28 = .ok (.istore 5, 2) := by decide +kernel
theorem dX5_kindFor_30 : decode cX5_kindFor 30 = .ok (.iload 5, 2) := by decide +kernel
theorem dX5_kindFor_32 : decode cX5_kindFor 32 = .ok (.bipush 7, 2) := by decide +kernel
theorem dX5_kindFor_34 : decode cX5_kindFor 34 = .ok (.if_icmp .ge 51, 3) := by decide +kernel
theorem dX5_kindFor_37 : decode cX5_kindFor 37 = .ok (.aload_n 0, 1) := by decide +kernel
theorem dX5_kindFor_38 : decode cX5_kindFor 38 = .ok (.iconst 0, 1) := by decide +kernel
theorem dX5_kindFor_39 : decode cX5_kindFor 39 = .ok (.iload 5, 2) := by decide +kernel
theorem dX5_kindFor_41 : decode cX5_kindFor 41 = .ok (.iload_n 1, 1) := by decide +kernel
theorem dX5_kindFor_42 : decode cX5_kindFor 42 = .ok (.invokevirtual 151, 3) := by decide +kernel
theorem dX5_kindFor_45 : decode cX5_kindFor 45 = .ok (.aload_n 0, 1) := by decide +kernel
theorem dX5_kindFor_46 : decode cX5_kindFor 46 = .ok (.getfield 19, 3) := by decide +kernel
theorem dX5_kindFor_49 : decode cX5_kindFor 49 = .ok (.iload_n 2, 1) := by decide +kernel
theorem dX5_kindFor_50 : decode cX5_kindFor 50 = .ok (.bipush 10, 2) := by decide +kernel
theorem dX5_kindFor_52 : decode cX5_kindFor 52 = .ok (.invokevirtual 110, 3) := by decide +kernel
theorem dX5_kindFor_55 : decode cX5_kindFor 55 = .ok (.pop, 1) := by decide +kernel
theorem dX5_kindFor_56 : decode cX5_kindFor 56 = .ok (.aload_n 0, 1) := by decide +kernel
theorem dX5_kindFor_57 : decode cX5_kindFor 57 = .ok (.getfield 19, 3) := by decide +kernel
theorem dX5_kindFor_60 : decode cX5_kindFor 60 = .ok (.getfield 114, 3) := by decide +kernel
theorem dX5_kindFor_63 : decode cX5_kindFor 63 = .ok (.iload_n 3, 1) := by decide +kernel
theorem dX5_kindFor_64 : decode cX5_kindFor 64 = .ok (.if_icmp .le 15, 3) := by decide +kernel
theorem dX5_kindFor_67 : decode cX5_kindFor 67 = .ok (.aload_n 0, 1) := by decide +kernel
theorem dX5_kindFor_68 : decode cX5_kindFor 68 = .ok (.getfield 19, 3) := by decide +kernel
theorem dX5_kindFor_71 : decode cX5_kindFor 71 = .ok (.getfield 114, 3) := by decide +kernel
theorem dX5_kindFor_74 : decode cX5_kindFor 74 = .ok (.istore_n 3, 1) := by decide +kernel
theorem dX5_kindFor_75 : decode cX5_kindFor 75 = .ok (.iload 5, 2) := by decide +kernel
theorem dX5_kindFor_77 : decode cX5_kindFor 77 = .ok (.istore 4, 2) := by decide +kernel
theorem dX5_kindFor_79 : decode cX5_kindFor 79 = .ok (.iinc 5 1, 3) := by decide +kernel
theorem dX5_kindFor_82 : decode cX5_kindFor 82 = .ok (.goto (-52), 3) := by decide +kernel
theorem dX5_kindFor_85 : decode cX5_kindFor 85 = .ok (.iload 4, 2) := by decide +kernel
theorem dX5_kindFor_87 : decode cX5_kindFor 87 = .ok (.ireturn, 1) := by decide +kernel
set_option maxRecDepth 20000 in
theorem ggX5_turn_X5_isUpTo : GoodIn wsX5_turn wsX5_isUpTo := goodIn_r _ [4] (by decide +kernel) (by decide +kernel)
set_option maxRecDepth 20000 in
theorem gX5_turn_X5_isUpTo : GoodIn wsX5_turn (va_wsS RX5 56 yX5_isUpTo wsX5_isUpTo) := goodIn_app (goodIn_of _ (by decide +kernel)) ggX5_turn_X5_isUpTo
set_option maxRecDepth 20000 in
theorem ggX5_turn_X5_tell : GoodIn wsX5_turn wsX5_tell := goodIn_r _ [8, 9, 10, 100, 101, 102, 103, 104, 105, 106, 107, 108] (by decide +kernel) (by decide +kernel)
set_option maxRecDepth 20000 in
theorem gX5_turn_X5_tell : GoodIn wsX5_turn (wsV RX5 64 RX5 yX5_tell wsX5_tell) := goodIn_app (goodIn_of _ (by decide +kernel)) ggX5_turn_X5_tell
set_option maxRecDepth 20000 in
theorem ggX5_turn_X5_lastIn : GoodIn wsX5_turn wsX5_lastIn := goodIn_r _ [13] (by decide +kernel) (by decide +kernel)
set_option maxRecDepth 20000 in
theorem gX5_turn_X5_lastIn : GoodIn wsX5_turn (va_wsS RX5 155 yX5_lastIn wsX5_lastIn) := goodIn_app (goodIn_of _ (by decide +kernel)) ggX5_turn_X5_lastIn
set_option maxRecDepth 20000 in
theorem ggX5_turn_J6_bitCount_0f7a4 : GoodIn wsX5_turn wsJ6_bitCount_0f7a4 := goodIn_r _ [17, 18, 19, 20] (by decide +kernel) (by decide +kernel)
set_option maxRecDepth 20000 in
theorem gX5_turn_J6_bitCount_0f7a4 : GoodIn wsX5_turn (va_wsS RX5 158 yJ6_bitCount_0f7a4 wsJ6_bitCount_0f7a4) := goodIn_app (goodIn_of _ (by decide +kernel)) ggX5_turn_J6_bitCount_0f7a4
set_option maxRecDepth 20000 in
theorem ggX5_turn_X5_staysWetTurned : GoodIn wsX5_turn wsX5_staysWetTurned := goodIn_r _ [24, 25, 26, 27, 28, 3, 29, 30, 31, 32, 33, 34, 35, 36, 37, 38, 39, 40, 41, 42, 43, 44, 45, 46, 47, 48, 49, 50, 51, 52, 53, 54, 55, 56, 57, 58, 59, 60, 61, 62, 63, 64, 65, 66, 67, 68, 69, 70, 71, 72, 73, 74, 75, 76, 77, 78, 79, 80, 81, 82, 83, 84, 85, 86, 87, 88, 89, 90, 91, 92, 93, 94, 95, 96, 97, 98, 99, 100, 101, 102, 103, 104, 105, 106, 107, 108, 109, 110, 111, 112, 113, 114, 115, 116, 117, 118, 119, 120] (by decide +kernel) (by decide +kernel)
set_option maxRecDepth 20000 in
theorem gX5_turn_X5_staysWetTurned : GoodIn wsX5_turn (wsV RX5 163 RX5 yX5_staysWetTurned wsX5_staysWetTurned) := goodIn_app (goodIn_of _ (by decide +kernel)) ggX5_turn_X5_staysWetTurned
theorem dX5_turn_0 : decode cX5_turn 0 = .ok (.iload_n 1, 1) := by decide +kernel
theorem dX5_turn_1 : decode cX5_turn 1 = .ok (.sipush 2047, 3) := by decide +kernel
theorem dX5_turn_4 : decode cX5_turn 4 = .ok (.invokestatic 56, 3) := by decide +kernel
theorem dX5_turn_7 : decode cX5_turn 7 = .ok (.ifCond .eq 12, 3) := by decide +kernel
theorem dX5_turn_10 : decode cX5_turn 10 = .ok (.iload_n 2, 1) := by decide +kernel
theorem dX5_turn_11 : decode cX5_turn 11 = .ok (.bipush 12, 2) := by decide +kernel
theorem dX5_turn_13 : decode cX5_turn 13 = .ok (.invokestatic 56, 3) := by decide +kernel
theorem dX5_turn_16 : decode cX5_turn 16 = .ok (.ifCond .ne 9, 3) := by decide +kernel
theorem dX5_turn_19 : decode cX5_turn 19 = .ok (.aload_n 0, 1) := by decide +kernel
theorem dX5_turn_20 : decode cX5_turn 20 = .ok (.iconst 0, 1) := by decide +kernel
theorem dX5_turn_21 : decode cX5_turn 21 = .ok (.invokevirtual 64, 3) := by decide +kernel
theorem dX5_turn_24 : decode cX5_turn 24 = .ok (.ireturn, 1) := by decide +kernel
theorem dX5_turn_25 : decode cX5_turn 25 = .ok (.iload_n 1, 1) := by decide +kernel
theorem dX5_turn_26 : decode cX5_turn 26 = .ok (.invokestatic 155, 3) := by decide +kernel
theorem dX5_turn_29 : decode cX5_turn 29 = .ok (.istore_n 3, 1) := by decide +kernel
theorem dX5_turn_30 : decode cX5_turn 30 = .ok (.iconst 0, 1) := by decide +kernel
theorem dX5_turn_31 : decode cX5_turn 31 = .ok (.istore 4, 2) := by decide +kernel
theorem dX5_turn_33 : decode cX5_turn 33 = .ok (.iload 4, 2) := by decide +kernel
theorem dX5_turn_35 : decode cX5_turn 35 = .ok (.iload_n 3, 1) := by decide +kernel
theorem dX5_turn_36 : decode cX5_turn 36 = .ok (.if_icmp .gt 51, 3) := by decide +kernel
theorem dX5_turn_39 : decode cX5_turn 39 = .ok (.iconst 0, 1) := by decide +kernel
theorem dX5_turn_40 : decode cX5_turn 40 = .ok (.istore 5, 2) := by decide +kernel
theorem dX5_turn_42 : decode cX5_turn 42 = .ok (.iload 5, 2) := by decide +kernel
theorem dX5_turn_44 : decode cX5_turn 44 = .ok (.iconst 1, 1) := by decide +kernel
theorem dX5_turn_45 : decode cX5_turn 45 = .ok (.iload_n 3, 1) := by decide +kernel
theorem dX5_turn_46 : decode cX5_turn 46 = .ok (.ishl, 1) := by decide +kernel
theorem dX5_turn_47 : decode cX5_turn 47 = .ok (.if_icmp .ge 34, 3) := by decide +kernel
theorem dX5_turn_50 : decode cX5_turn 50 = .ok (.iload 5, 2) := by decide +kernel
theorem dX5_turn_52 : decode cX5_turn 52 = .ok (.invokestatic 158, 3) := by decide +kernel
theorem dX5_turn_55 : decode cX5_turn 55 = .ok (.iload 4, 2) := by decide +kernel
theorem dX5_turn_57 : decode cX5_turn 57 = .ok (.if_icmp .ne 18, 3) := by decide +kernel
theorem dX5_turn_60 : decode cX5_turn 60 = .ok (.aload_n 0, 1) := by decide +kernel
theorem dX5_turn_61 : decode cX5_turn 61 = .ok (.iload 5, 2) := by decide +kernel
theorem dX5_turn_63 : decode cX5_turn 63 = .ok (.iload_n 1, 1) := by decide +kernel
theorem dX5_turn_64 : decode cX5_turn 64 = .ok (.iload_n 3, 1) := by decide +kernel
theorem dX5_turn_65 : decode cX5_turn 65 = .ok (.iload_n 2, 1) := by decide +kernel
theorem dX5_turn_66 : decode cX5_turn 66 = .ok (.invokevirtual 163, 3) := by decide +kernel
theorem dX5_turn_69 : decode cX5_turn 69 = .ok (.ifCond .eq 6, 3) := by decide +kernel
theorem dX5_turn_72 : decode cX5_turn 72 = .ok (.iload 5, 2) := by decide +kernel
theorem dX5_turn_74 : decode cX5_turn 74 = .ok (.ireturn, 1) := by decide +kernel
theorem dX5_turn_75 : decode cX5_turn 75 = .ok (.iinc 5 1, 3) := by decide +kernel
theorem dX5_turn_78 : decode cX5_turn 78 = .ok (.goto (-36), 3) := by decide +kernel
theorem dX5_turn_81 : decode cX5_turn 81 = .ok (.iinc 4 1, 3) := by decide +kernel
theorem dX5_turn_84 : decode cX5_turn 84 = .ok (.goto (-51), 3) := by decide +kernel
theorem dX5_turn_87 : decode cX5_turn 87 = .ok (.aload_n 0, 1) := by decide +kernel
theorem dX5_turn_88 : decode cX5_turn 88 = .ok (.iconst 3, 1) := by decide +kernel
theorem dX5_turn_89 : decode cX5_turn 89 = .ok (.invokevirtual 64, 3) := by decide +kernel
theorem dX5_turn_92 : decode cX5_turn 92 = .ok (.ireturn, 1) := by decide +kernel
set_option maxRecDepth 20000 in
theorem ggX5_best_X5_isUpTo : GoodIn wsX5_best wsX5_isUpTo := goodIn_r _ [5] (by decide +kernel) (by decide +kernel)
set_option maxRecDepth 20000 in
theorem gX5_best_X5_isUpTo : GoodIn wsX5_best (va_wsS RX5 56 yX5_isUpTo wsX5_isUpTo) := goodIn_app (goodIn_of _ (by decide +kernel)) ggX5_best_X5_isUpTo
set_option maxRecDepth 20000 in
theorem ggX5_best_X5_tell : GoodIn wsX5_best wsX5_tell := goodIn_r _ [9, 10, 11, 93, 94, 95, 96, 97, 98, 99, 100, 101] (by decide +kernel) (by decide +kernel)
set_option maxRecDepth 20000 in
theorem gX5_best_X5_tell : GoodIn wsX5_best (wsV RX5 64 RX5 yX5_tell wsX5_tell) := goodIn_app (goodIn_of _ (by decide +kernel)) ggX5_best_X5_tell
set_option maxRecDepth 20000 in
theorem ggX5_best_X5_tryTurned : GoodIn wsX5_best wsX5_tryTurned := goodIn_r _ [15, 1, 16, 17, 18, 19, 20, 21, 22, 23, 24, 25, 26, 27, 28, 29, 30, 31, 32, 33, 34, 35, 36, 37, 38, 93, 94, 95, 96, 97, 98, 99, 100, 101, 102, 103, 104, 105, 106, 107, 108, 109, 110, 111, 112, 113] (by decide +kernel) (by decide +kernel)
set_option maxRecDepth 20000 in
theorem gX5_best_X5_tryTurned : GoodIn wsX5_best (wsV RX5 166 RX5 yX5_tryTurned wsX5_tryTurned) := goodIn_app (goodIn_of _ (by decide +kernel)) ggX5_best_X5_tryTurned
set_option maxRecDepth 20000 in
theorem ggX5_best_X1_passHours : GoodIn wsX5_best wsX1_passHours := goodIn_r _ [42, 43, 44, 45, 21, 46, 34, 28, 32, 47, 48, 49, 50, 23, 51, 37, 52, 53, 54, 55, 56, 35, 57, 58, 59, 60, 36, 61, 62, 63, 64, 29, 65, 66, 67, 68, 69, 70, 71, 72, 73, 74, 75, 30, 76, 77, 78, 79, 80, 81, 82, 83, 84, 85, 31, 102, 103, 104, 105, 106, 107, 108, 109, 110, 111, 112, 113] (by decide +kernel) (by decide +kernel)
set_option maxRecDepth 20000 in
theorem gX5_best_X1_passHours : GoodIn wsX5_best (wsV RX5 110 RX1 yX1_passHours wsX1_passHours) := goodIn_app (goodIn_of _ (by decide +kernel)) ggX5_best_X1_passHours
set_option maxRecDepth 20000 in
theorem ggX5_best_J6_bitCount_0f7a4 : GoodIn wsX5_best wsJ6_bitCount_0f7a4 := goodIn_r _ [89, 90, 91, 92] (by decide +kernel) (by decide +kernel)
set_option maxRecDepth 20000 in
theorem gX5_best_J6_bitCount_0f7a4 : GoodIn wsX5_best (va_wsS RX5 158 yJ6_bitCount_0f7a4 wsJ6_bitCount_0f7a4) := goodIn_app (goodIn_of _ (by decide +kernel)) ggX5_best_J6_bitCount_0f7a4
theorem dX5_best_0 : decode cX5_best 0 = .ok (.iload_n 1, 1) := by decide +kernel
theorem dX5_best_1 : decode cX5_best 1 = .ok (.bipush 40, 2) := by decide +kernel
theorem dX5_best_3 : decode cX5_best 3 = .ok (.invokestatic 56, 3) := by decide +kernel
theorem dX5_best_6 : decode cX5_best 6 = .ok (.ifCond .ne 9, 3) := by decide +kernel
theorem dX5_best_9 : decode cX5_best 9 = .ok (.aload_n 0, 1) := by decide +kernel
theorem dX5_best_10 : decode cX5_best 10 = .ok (.iconst 0, 1) := by decide +kernel
theorem dX5_best_11 : decode cX5_best 11 = .ok (.invokevirtual 64, 3) := by decide +kernel
theorem dX5_best_14 : decode cX5_best 14 = .ok (.ireturn, 1) := by decide +kernel
theorem dX5_best_15 : decode cX5_best 15 = .ok (.bipush 12, 2) := by decide +kernel
theorem dX5_best_17 : decode cX5_best 17 = .ok (.istore_n 2, 1) := by decide +kernel
theorem dX5_best_18 : decode cX5_best 18 = .ok (.iconst 0, 1) := by decide +kernel
theorem dX5_best_19 : decode cX5_best 19 = .ok (.istore_n 3, 1) := by decide +kernel
theorem dX5_best_20 : decode cX5_best 20 = .ok (.iconst 0, 1) := by decide +kernel
theorem dX5_best_21 : decode cX5_best 21 = .ok (.istore 4, 2) := by decide +kernel
theorem dX5_best_23 : decode cX5_best 23 = .ok (.iload 4, 2) := by decide +kernel
theorem dX5_best_25 : decode cX5_best 25 = .ok (.bipush 11, 2) := by decide +kernel
theorem dX5_best_27 : decode cX5_best 27 = .ok (.if_icmp .ge 44, 3) := by decide +kernel
theorem dX5_best_30 : decode cX5_best 30 = .ok (.aload_n 0, 1) := by decide +kernel
theorem dX5_best_31 : decode cX5_best 31 = .ok (.iconst 1, 1) := by decide +kernel
theorem dX5_best_32 : decode cX5_best 32 = .ok (.iload 4, 2) := by decide +kernel
theorem dX5_best_34 : decode cX5_best 34 = .ok (.ishl, 1) := by decide +kernel
theorem dX5_best_35 : decode cX5_best 35 = .ok (.invokevirtual 166, 3) := by decide +kernel
theorem dX5_best_38 : decode cX5_best 38 = .ok (.aload_n 0, 1) := by decide +kernel
theorem dX5_best_39 : decode cX5_best 39 = .ok (.getfield 19, 3) := by decide +kernel
theorem dX5_best_42 : decode cX5_best 42 = .ok (.iload_n 1, 1) := by decide +kernel
theorem dX5_best_43 : decode cX5_best 43 = .ok (.bipush 10, 2) := by decide +kernel
theorem dX5_best_45 : decode cX5_best 45 = .ok (.invokevirtual 110, 3) := by decide +kernel
theorem dX5_best_48 : decode cX5_best 48 = .ok (.invokestatic 158, 3) := by decide +kernel
theorem dX5_best_51 : decode cX5_best 51 = .ok (.istore 5, 2) := by decide +kernel
theorem dX5_best_53 : decode cX5_best 53 = .ok (.iload 5, 2) := by decide +kernel
theorem dX5_best_55 : decode cX5_best 55 = .ok (.iload_n 2, 1) := by decide +kernel

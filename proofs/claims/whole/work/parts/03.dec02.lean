theorem dX5_isTrialAsSeen_53 : decode cX5_isTrialAsSeen 53 = .ok (.iinc 3 1, 3) := by decide +kernel
theorem dX5_isTrialAsSeen_56 : decode cX5_isTrialAsSeen 56 = .ok (.goto (-54), 3) := by decide +kernel
theorem dX5_isTrialAsSeen_59 : decode cX5_isTrialAsSeen 59 = .ok (.iconst 1, 1) := by decide +kernel
theorem dX5_isTrialAsSeen_60 : decode cX5_isTrialAsSeen 60 = .ok (.ireturn, 1) := by decide +kernel
theorem dX6_init_0 : decode cX6_init 0 = .ok (.aload_n 0, 1) := by decide +kernel
theorem dX6_init_1 : decode cX6_init 1 = .ok (.invokespecial 3, 3) := by decide +kernel
theorem dX6_init_4 : decode cX6_init 4 = .ok (.aload_n 0, 1) := by decide +kernel
theorem dX6_init_5 : decode cX6_init 5 = .ok (.bipush 81, 2) := by decide +kernel
theorem dX6_init_7 : decode cX6_init 7 = .ok (.newarray .int, 2) := by decide +kernel
theorem dX6_init_9 : decode cX6_init 9 = .ok (.putfield 9, 3) := by decide +kernel
theorem dX6_init_12 : decode cX6_init 12 = .ok (.aload_n 0, 1) := by decide +kernel
theorem dX6_init_13 : decode cX6_init 13 = .ok (.bipush 81, 2) := by decide +kernel
theorem dX6_init_15 : decode cX6_init 15 = .ok (.newarray .int, 2) := by decide +kernel
theorem dX6_init_17 : decode cX6_init 17 = .ok (.putfield 13, 3) := by decide +kernel
theorem dX6_init_20 : decode cX6_init 20 = .ok (.aload_n 0, 1) := by decide +kernel
theorem dX6_init_21 : decode cX6_init 21 = .ok (.bipush 81, 2) := by decide +kernel
theorem dX6_init_23 : decode cX6_init 23 = .ok (.newarray .int, 2) := by decide +kernel
theorem dX6_init_25 : decode cX6_init 25 = .ok (.putfield 16, 3) := by decide +kernel
theorem dX6_init_28 : decode cX6_init 28 = .ok (.aload_n 0, 1) := by decide +kernel
theorem dX6_init_29 : decode cX6_init 29 = .ok (.bipush 7, 2) := by decide +kernel
theorem dX6_init_31 : decode cX6_init 31 = .ok (.newarray .int, 2) := by decide +kernel
theorem dX6_init_33 : decode cX6_init 33 = .ok (.putfield 19, 3) := by decide +kernel
theorem dX6_init_36 : decode cX6_init 36 = .ok (.aload_n 0, 1) := by decide +kernel
theorem dX6_init_37 : decode cX6_init 37 = .ok (.bipush 11, 2) := by decide +kernel
theorem dX6_init_39 : decode cX6_init 39 = .ok (.newarray .int, 2) := by decide +kernel
theorem dX6_init_41 : decode cX6_init 41 = .ok (.putfield 22, 3) := by decide +kernel
theorem dX6_init_44 : decode cX6_init 44 = .ok (.aload_n 0, 1) := by decide +kernel
theorem dX6_init_45 : decode cX6_init 45 = .ok (.bipush 11, 2) := by decide +kernel
theorem dX6_init_47 : decode cX6_init 47 = .ok (.newarray .int, 2) := by decide +kernel
theorem dX6_init_49 : decode cX6_init 49 = .ok (.putfield 25, 3) := by decide +kernel
theorem dX6_init_52 : decode cX6_init 52 = .ok (.aload_n 0, 1) := by decide +kernel
theorem dX6_init_53 : decode cX6_init 53 = .ok (.bipush 120, 2) := by decide +kernel
theorem dX6_init_55 : decode cX6_init 55 = .ok (.newarray .int, 2) := by decide +kernel
theorem dX6_init_57 : decode cX6_init 57 = .ok (.putfield 28, 3) := by decide +kernel
theorem dX6_init_60 : decode cX6_init 60 = .ok (.aload_n 0, 1) := by decide +kernel
theorem dX6_init_61 : decode cX6_init 61 = .ok (.iconst 4, 1) := by decide +kernel
theorem dX6_init_62 : decode cX6_init 62 = .ok (.newarray .int, 2) := by decide +kernel
theorem dX6_init_64 : decode cX6_init 64 = .ok (.putfield 31, 3) := by decide +kernel
theorem dX6_init_67 : decode cX6_init 67 = .ok (.aload_n 0, 1) := by decide +kernel
theorem dX6_init_68 : decode cX6_init 68 = .ok (.iconst 4, 1) := by decide +kernel
theorem dX6_init_69 : decode cX6_init 69 = .ok (.newarray .int, 2) := by decide +kernel
theorem dX6_init_71 : decode cX6_init 71 = .ok (.putfield 34, 3) := by decide +kernel
theorem dX6_init_74 : decode cX6_init 74 = .ok (.aload_n 0, 1) := by decide +kernel
theorem dX6_init_75 : decode cX6_init 75 = .ok (.sipush 160, 3) := by decide +kernel
theorem dX6_init_78 : decode cX6_init 78 = .ok (.newarray .int, 2) := by decide +kernel
theorem dX6_init_80 : decode cX6_init 80 = .ok (.putfield 37, 3) := by decide +kernel
theorem dX6_init_83 : decode cX6_init 83 = .ok (.aload_n 0, 1) := by decide +kernel
theorem dX6_init_84 : decode cX6_init 84 = .ok (.bipush 40, 2) := by decide +kernel
theorem dX6_init_86 : decode cX6_init 86 = .ok (.newarray .int, 2) := by decide +kernel
theorem dX6_init_88 : decode cX6_init 88 = .ok (.putfield 40, 3) := by decide +kernel
theorem dX6_init_91 : decode cX6_init 91 = .ok (.aload_n 0, 1) := by decide +kernel
theorem dX6_init_92 : decode cX6_init 92 = .ok (.getfield 9, 3) := by decide +kernel
theorem dX6_init_95 : decode cX6_init 95 = .ok (.iconst 1, 1) := by decide +kernel
theorem dX6_init_96 : decode cX6_init 96 = .ok (.iconst 1, 1) := by decide +kernel
theorem dX6_init_97 : decode cX6_init 97 = .ok (.iastore, 1) := by decide +kernel
theorem dX6_init_98 : decode cX6_init 98 = .ok (.aload_n 0, 1) := by decide +kernel
theorem dX6_init_99 : decode cX6_init 99 = .ok (.getfield 9, 3) := by decide +kernel
theorem dX6_init_102 : decode cX6_init 102 = .ok (.iconst 2, 1) := by decide +kernel
theorem dX6_init_103 : decode cX6_init 103 = .ok (.bipush 20, 2) := by decide +kernel
theorem dX6_init_105 : decode cX6_init 105 = .ok (.iastore, 1) := by decide +kernel
theorem dX6_init_106 : decode cX6_init 106 = .ok (.iconst 0, 1) := by decide +kernel
theorem dX6_init_107 : decode cX6_init 107 = .ok (.istore_n 1, 1) := by decide +kernel
theorem dX6_init_108 : decode cX6_init 108 = .ok (.iload_n 1, 1) := by decide +kernel
theorem dX6_init_109 : decode cX6_init 109 = .ok (.bipush 11, 2) := by decide +kernel
theorem dX6_init_111 : decode cX6_init 111 = .ok (.if_icmp .ge 24, 3) := by decide +kernel
theorem dX6_init_114 : decode cX6_init 114 = .ok (.aload_n 0, 1) := by decide +kernel
theorem dX6_init_115 : decode cX6_init 115 = .ok (.iload_n 1, 1) := by decide +kernel
theorem dX6_init_116 : decode cX6_init 116 = .ok (.iconst 2, 1) := by decide +kernel
theorem dX6_init_117 : decode cX6_init 117 = .ok (.iconst 2, 1) := by decide +kernel
theorem dX6_init_118 : decode cX6_init 118 = .ok (.invokevirtual 43, 3) := by decide +kernel
theorem dX6_init_121 : decode cX6_init 121 = .ok (.aload_n 0, 1) := by decide +kernel
theorem dX6_init_122 : decode cX6_init 122 = .ok (.iload_n 1, 1) := by decide +kernel
theorem dX6_init_123 : decode cX6_init 123 = .ok (.iconst 3, 1) := by decide +kernel
theorem dX6_init_124 : decode cX6_init 124 = .ok (.bipush 10, 2) := by decide +kernel
theorem dX6_init_126 : decode cX6_init 126 = .ok (.invokevirtual 43, 3) := by decide +kernel
theorem dX6_init_129 : decode cX6_init 129 = .ok (.iinc 1 1, 3) := by decide +kernel
theorem dX6_init_132 : decode cX6_init 132 = .ok (.goto (-24), 3) := by decide +kernel
theorem dX6_init_135 : decode cX6_init 135 = .ok (.iconst 0, 1) := by decide +kernel
theorem dX6_init_136 : decode cX6_init 136 = .ok (.istore_n 1, 1) := by decide +kernel
theorem dX6_init_137 : decode cX6_init 137 = .ok (.iload_n 1, 1) := by decide +kernel
theorem dX6_init_138 : decode cX6_init 138 = .ok (.bipush 10, 2) := by decide +kernel
theorem dX6_init_140 : decode cX6_init 140 = .ok (.if_icmp .ge 19, 3) := by decide +kernel
theorem dX6_init_143 : decode cX6_init 143 = .ok (.aload_n 0, 1) := by decide +kernel
theorem dX6_init_144 : decode cX6_init 144 = .ok (.getfield 9, 3) := by decide +kernel
theorem dX6_init_147 : decode cX6_init 147 = .ok (.bipush 71, 2) := by decide +kernel
theorem dX6_init_149 : decode cX6_init 149 = .ok (.iload_n 1, 1) := by decide +kernel
theorem dX6_init_150 : decode cX6_init 150 = .ok (.iadd, 1) := by decide +kernel
theorem dX6_init_151 : decode cX6_init 151 = .ok (.iconst (-1), 1) := by decide +kernel
theorem dX6_init_152 : decode cX6_init 152 = .ok (.iastore, 1) := by decide +kernel
theorem dX6_init_153 : decode cX6_init 153 = .ok (.iinc 1 1, 3) := by decide +kernel
theorem dX6_init_156 : decode cX6_init 156 = .ok (.goto (-19), 3) := by decide +kernel
theorem dX6_init_159 : decode cX6_init 159 = .ok (.return_, 1) := by decide +kernel
theorem dX6_finds_0 : decode cX6_finds 0 = .ok (.aload_n 0, 1) := by decide +kernel
theorem dX6_finds_1 : decode cX6_finds 1 = .ok (.getfield 19, 3) := by decide +kernel
theorem dX6_finds_4 : decode cX6_finds 4 = .ok (.iload_n 1, 1) := by decide +kernel
theorem dX6_finds_5 : decode cX6_finds 5 = .ok (.dup2, 1) := by decide +kernel
theorem dX6_finds_6 : decode cX6_finds 6 = .ok (.iaload, 1) := by decide +kernel
theorem dX6_finds_7 : decode cX6_finds 7 = .ok (.iconst 1, 1) := by decide +kernel
theorem dX6_finds_8 : decode cX6_finds 8 = .ok (.iadd, 1) := by decide +kernel
theorem dX6_finds_9 : decode cX6_finds 9 = .ok (.iastore, 1) := by decide +kernel
theorem dX6_finds_10 : decode cX6_finds 10 = .ok (.ldc 47, 2) := by decide +kernel
theorem dX6_finds_12 : decode cX6_finds 12 = .ok (.iload_n 1, 1) := by decide +kernel
theorem dX6_finds_13 : decode cX6_finds 13 = .ok (.isub, 1) := by decide +kernel
theorem dX6_finds_14 : decode cX6_finds 14 = .ok (.ireturn, 1) := by decide +kernel
theorem dX6_in_0 : decode cX6_in 0 = .ok (.lload_n 0, 1) := by decide +kernel
theorem dX6_in_1 : decode cX6_in 1 = .ok (.lload_n 2, 1) := by decide +kernel
theorem dX6_in_2 : decode cX6_in 2 = .ok (.lcmp, 1) := by decide +kernel
theorem dX6_in_3 : decode cX6_in 3 = .ok (.ifCond .lt 14, 3) := by decide +kernel
theorem dX6_in_6 : decode cX6_in 6 = .ok (.lload_n 0, 1) := by decide +kernel
theorem dX6_in_7 : decode cX6_in 7 = .ok (.lload 4, 2) := by decide +kernel
theorem dX6_in_9 : decode cX6_in 9 = .ok (.lcmp, 1) := by decide +kernel
theorem dX6_in_10 : decode cX6_in 10 = .ok (.ifCond .gt 7, 3) := by decide +kernel
theorem dX6_in_13 : decode cX6_in 13 = .ok (.iconst 1, 1) := by decide +kernel
theorem dX6_in_14 : decode cX6_in 14 = .ok (.goto 4, 3) := by decide +kernel
theorem dX6_in_17 : decode cX6_in 17 = .ok (.iconst 0, 1) := by decide +kernel
theorem dX6_in_18 : decode cX6_in 18 = .ok (.ireturn, 1) := by decide +kernel
theorem dX6_become_0 : decode cX6_become 0 = .ok (.iconst 0, 1) := by decide +kernel
theorem dX6_become_1 : decode cX6_become 1 = .ok (.istore_n 2, 1) := by decide +kernel
theorem dX6_become_2 : decode cX6_become 2 = .ok (.iload_n 2, 1) := by decide +kernel
theorem dX6_become_3 : decode cX6_become 3 = .ok (.bipush 81, 2) := by decide +kernel
theorem dX6_become_5 : decode cX6_become 5 = .ok (.if_icmp .ge 15, 3) := by decide +kernel
theorem dX6_become_8 : decode cX6_become 8 = .ok (.aload_n 1, 1) := by decide +kernel
theorem dX6_become_9 : decode cX6_become 9 = .ok (.iload_n 2, 1) := by decide +kernel
theorem dX6_become_10 : decode cX6_become 10 = .ok (.aload_n 0, 1) := by decide +kernel
theorem dX6_become_11 : decode cX6_become 11 = .ok (.iload_n 2, 1) := by decide +kernel
theorem dX6_become_12 : decode cX6_become 12 = .ok (.iaload, 1) := by decide +kernel
theorem dX6_become_13 : decode cX6_become 13 = .ok (.iastore, 1) := by decide +kernel
theorem dX6_become_14 : decode cX6_become 14 = .ok (.iinc 2 1, 3) := by decide +kernel
theorem dX6_become_17 : decode cX6_become 17 = .ok (.goto (-15), 3) := by decide +kernel
theorem dX6_become_20 : decode cX6_become 20 = .ok (.return_, 1) := by decide +kernel
theorem dX6_lends_0 : decode cX6_lends 0 = .ok (.aload_n 0, 1) := by decide +kernel
theorem dX6_lends_1 : decode cX6_lends 1 = .ok (.getfield 9, 3) := by decide +kernel
theorem dX6_lends_4 : decode cX6_lends 4 = .ok (.aload_n 0, 1) := by decide +kernel
theorem dX6_lends_5 : decode cX6_lends 5 = .ok (.getfield 16, 3) := by decide +kernel
theorem dX6_lends_8 : decode cX6_lends 8 = .ok (.invokestatic 48, 3) := by decide +kernel
theorem dX6_lends_11 : decode cX6_lends 11 = .ok (.return_, 1) := by decide +kernel
theorem dX6_laysBack_0 : decode cX6_laysBack 0 = .ok (.aload_n 0, 1) := by decide +kernel
theorem dX6_laysBack_1 : decode cX6_laysBack 1 = .ok (.getfield 16, 3) := by decide +kernel
theorem dX6_laysBack_4 : decode cX6_laysBack 4 = .ok (.aload_n 0, 1) := by decide +kernel
theorem dX6_laysBack_5 : decode cX6_laysBack 5 = .ok (.getfield 9, 3) := by decide +kernel
theorem dX6_laysBack_8 : decode cX6_laysBack 8 = .ok (.invokestatic 48, 3) := by decide +kernel
theorem dX6_laysBack_11 : decode cX6_laysBack 11 = .ok (.return_, 1) := by decide +kernel
theorem dX6_isHouse_0 : decode cX6_isHouse 0 = .ok (.iload_n 0, 1) := by decide +kernel
theorem dX6_isHouse_1 : decode cX6_isHouse 1 = .ok (.i2l, 1) := by decide +kernel
theorem dX6_isHouse_2 : decode cX6_isHouse 2 = .ok (.lconst 0, 1) := by decide +kernel
theorem dX6_isHouse_3 : decode cX6_isHouse 3 = .ok (.ldc2_w 52, 3) := by decide +kernel
theorem dX6_isHouse_6 : decode cX6_isHouse 6 = .ok (.invokestatic 54, 3) := by decide +kernel
theorem dX6_isHouse_9 : decode cX6_isHouse 9 = .ok (.ireturn, 1) := by decide +kernel
theorem dX6_its_0 : decode cX6_its 0 = .ok (.aload_n 0, 1) := by decide +kernel
theorem dX6_its_1 : decode cX6_its 1 = .ok (.getfield 9, 3) := by decide +kernel
theorem dX6_its_4 : decode cX6_its 4 = .ok (.iconst 5, 1) := by decide +kernel
theorem dX6_its_5 : decode cX6_its 5 = .ok (.bipush 6, 2) := by decide +kernel
theorem dX6_its_7 : decode cX6_its 7 = .ok (.iload_n 1, 1) := by decide +kernel
theorem dX6_its_8 : decode cX6_its 8 = .ok (.imul, 1) := by decide +kernel
theorem dX6_its_9 : decode cX6_its 9 = .ok (.iadd, 1) := by decide +kernel
theorem dX6_its_10 : decode cX6_its 10 = .ok (.iload_n 2, 1) := by decide +kernel
theorem dX6_its_11 : decode cX6_its 11 = .ok (.iadd, 1) := by decide +kernel
theorem dX6_its_12 : decode cX6_its 12 = .ok (.iaload, 1) := by decide +kernel
theorem dX6_its_13 : decode cX6_its 13 = .ok (.ireturn, 1) := by decide +kernel
theorem dX6_sets_0 : decode cX6_sets 0 = .ok (.aload_n 0, 1) := by decide +kernel
theorem dX6_sets_1 : decode cX6_sets 1 = .ok (.getfield 9, 3) := by decide +kernel
theorem dX6_sets_4 : decode cX6_sets 4 = .ok (.iconst 5, 1) := by decide +kernel
theorem dX6_sets_5 : decode cX6_sets 5 = .ok (.bipush 6, 2) := by decide +kernel
theorem dX6_sets_7 : decode cX6_sets 7 = .ok (.iload_n 1, 1) := by decide +kernel
theorem dX6_sets_8 : decode cX6_sets 8 = .ok (.imul, 1) := by decide +kernel
theorem dX6_sets_9 : decode cX6_sets 9 = .ok (.iadd, 1) := by decide +kernel
theorem dX6_sets_10 : decode cX6_sets 10 = .ok (.iload_n 2, 1) := by decide +kernel
theorem dX6_sets_11 : decode cX6_sets 11 = .ok (.iadd, 1) := by decide +kernel
theorem dX6_sets_12 : decode cX6_sets 12 = .ok (.iload_n 3, 1) := by decide +kernel
theorem dX6_sets_13 : decode cX6_sets 13 = .ok (.iastore, 1) := by decide +kernel
theorem dX6_sets_14 : decode cX6_sets 14 = .ok (.return_, 1) := by decide +kernel
theorem dX6_becomes_0 : decode cX6_becomes 0 = .ok (.aload_n 0, 1) := by decide +kernel
theorem dX6_becomes_1 : decode cX6_becomes 1 = .ok (.getfield 9, 3) := by decide +kernel
theorem dX6_becomes_4 : decode cX6_becomes 4 = .ok (.iload_n 1, 1) := by decide +kernel
theorem dX6_becomes_5 : decode cX6_becomes 5 = .ok (.iaload, 1) := by decide +kernel
theorem dX6_becomes_6 : decode cX6_becomes 6 = .ok (.istore_n 3, 1) := by decide +kernel
theorem dX6_becomes_7 : decode cX6_becomes 7 = .ok (.aload_n 0, 1) := by decide +kernel
theorem dX6_becomes_8 : decode cX6_becomes 8 = .ok (.getfield 9, 3) := by decide +kernel
theorem dX6_becomes_11 : decode cX6_becomes 11 = .ok (.iload_n 1, 1) := by decide +kernel
theorem dX6_becomes_12 : decode cX6_becomes 12 = .ok (.iload_n 2, 1) := by decide +kernel
theorem dX6_becomes_13 : decode cX6_becomes 13 = .ok (.iastore, 1) := by decide +kernel
theorem dX6_becomes_14 : decode cX6_becomes 14 = .ok (.iload_n 3, 1) := by decide +kernel
theorem dX6_becomes_15 : decode cX6_becomes 15 = .ok (.ireturn, 1) := by decide +kernel
theorem dX6_ones_0 : decode cX6_ones 0 = .ok (.iconst 0, 1) := by decide +kernel
theorem dX6_ones_1 : decode cX6_ones 1 = .ok (.istore_n 1, 1) := by decide +kernel
theorem dX6_ones_2 : decode cX6_ones 2 = .ok (.iconst 0, 1) := by decide +kernel
theorem dX6_ones_3 : decode cX6_ones 3 = .ok (.istore_n 2, 1) := by decide +kernel
theorem dX6_ones_4 : decode cX6_ones 4 = .ok (.iload_n 2, 1) := by decide +kernel
theorem dX6_ones_5 : decode cX6_ones 5 = .ok (.bipush 11, 2) := by decide +kernel
theorem dX6_ones_7 : decode cX6_ones 7 = .ok (.if_icmp .ge 17, 3) := by decide +kernel
theorem dX6_ones_10 : decode cX6_ones 10 = .ok (.iload_n 1, 1) := by decide +kernel
theorem dX6_ones_11 : decode cX6_ones 11 = .ok (.iload_n 0, 1) := by decide +kernel
theorem dX6_ones_12 : decode cX6_ones 12 = .ok (.iload_n 2, 1) := by decide +kernel
theorem dX6_ones_13 : decode cX6_ones 13 = .ok (.ishr, 1) := by decide +kernel
theorem dX6_ones_14 : decode cX6_ones 14 = .ok (.iconst 1, 1) := by decide +kernel
theorem dX6_ones_15 : decode cX6_ones 15 = .ok (.iand, 1) := by decide +kernel
theorem dX6_ones_16 : decode cX6_ones 16 = .ok (.iadd, 1) := by decide +kernel
theorem dX6_ones_17 : decode cX6_ones 17 = .ok (.istore_n 1, 1) := by decide +kernel
theorem dX6_ones_18 : decode cX6_ones 18 = .ok (.iinc 2 1, 3) := by decide +kernel
theorem dX6_ones_21 : decode cX6_ones 21 = .ok (.goto (-17), 3) := by decide +kernel
theorem dX6_ones_24 : decode cX6_ones 24 = .ok (.iload_n 1, 1) := by decide +kernel
theorem dX6_ones_25 : decode cX6_ones 25 = .ok (.ireturn, 1) := by decide +kernel
theorem dX6_aboveOf_0 : decode cX6_aboveOf 0 = .ok (.iload_n 0, 1) := by decide +kernel
theorem dX6_aboveOf_1 : decode cX6_aboveOf 1 = .ok (.iconst 3, 1) := by decide +kernel
theorem dX6_aboveOf_2 : decode cX6_aboveOf 2 = .ok (.if_icmp .ne 7, 3) := by decide +kernel
theorem dX6_aboveOf_5 : decode cX6_aboveOf 5 = .ok (.iconst 2, 1) := by decide +kernel
theorem dX6_aboveOf_6 : decode cX6_aboveOf 6 = .ok (.goto 23, 3) := by decide +kernel
theorem dX6_aboveOf_9 : decode cX6_aboveOf 9 = .ok (.iload_n 0, 1) := by decide +kernel
theorem dX6_aboveOf_10 : decode cX6_aboveOf 10 = .ok (.iconst 4, 1) := by decide +kernel
theorem dX6_aboveOf_11 : decode cX6_aboveOf 11 = .ok (.if_icmp .ne 7, 3) := by decide +kernel
theorem dX6_aboveOf_14 : decode cX6_aboveOf 14 = .ok (.iconst 3, 1) := by decide +kernel
theorem dX6_aboveOf_15 : decode cX6_aboveOf 15 = .ok (.goto 14, 3) := by decide +kernel
theorem dX6_aboveOf_18 : decode cX6_aboveOf 18 = .ok (.iload_n 0, 1) := by decide +kernel
theorem dX6_aboveOf_19 : decode cX6_aboveOf 19 = .ok (.bipush 6, 2) := by decide +kernel
theorem dX6_aboveOf_21 : decode cX6_aboveOf 21 = .ok (.if_icmp .ne 7, 3) := by decide +kernel
theorem dX6_aboveOf_24 : decode cX6_aboveOf 24 = .ok (.iconst 1, 1) := by decide +kernel
theorem dX6_aboveOf_25 : decode cX6_aboveOf 25 = .ok (.goto 4, 3) := by decide +kernel
theorem dX6_aboveOf_28 : decode cX6_aboveOf 28 = .ok (.iconst 0, 1) := by decide +kernel
theorem dX6_aboveOf_29 : decode cX6_aboveOf 29 = .ok (.ireturn, 1) := by decide +kernel
theorem dX6_isUnder_0 : decode cX6_isUnder 0 = .ok (.iload_n 0, 1) := by decide +kernel
theorem dX6_isUnder_1 : decode cX6_isUnder 1 = .ok (.istore_n 2, 1) := by decide +kernel
theorem dX6_isUnder_2 : decode cX6_isUnder 2 = .ok (.iload_n 2, 1) := by decide +kernel
theorem dX6_isUnder_3 : decode cX6_isUnder 3 = .ok (.ifCond .eq 16, 3) := by decide +kernel
theorem dX6_isUnder_6 : decode cX6_isUnder 6 = .ok (.iload_n 2, 1) := by decide +kernel
theorem dX6_isUnder_7 : decode cX6_isUnder 7 = .ok (.iload_n 1, 1) := by decide +kernel
theorem dX6_isUnder_8 : decode cX6_isUnder 8 = .ok (.if_icmp .eq 11, 3) := by decide +kernel
theorem dX6_isUnder_11 : decode cX6_isUnder 11 = .ok (.iload_n 2, 1) := by decide +kernel
theorem dX6_isUnder_12 : decode cX6_isUnder 12 = .ok (.invokestatic 58, 3) := by decide +kernel
theorem dX6_isUnder_15 : decode cX6_isUnder 15 = .ok (.istore_n 2, 1) := by decide +kernel
theorem dX6_isUnder_16 : decode cX6_isUnder 16 = .ok (.goto (-14), 3) := by decide +kernel
theorem dX6_isUnder_19 : decode cX6_isUnder 19 = .ok (.iload_n 2, 1) := by decide +kernel
theorem dX6_isUnder_20 : decode cX6_isUnder 20 = .ok (.iload_n 1, 1) := by decide +kernel
theorem dX6_isUnder_21 : decode cX6_isUnder 21 = .ok (.if_icmp .ne 7, 3) := by decide +kernel
theorem dX6_isUnder_24 : decode cX6_isUnder 24 = .ok (.iconst 1, 1) := by decide +kernel
theorem dX6_isUnder_25 : decode cX6_isUnder 25 = .ok (.goto 4, 3) := by decide +kernel
theorem dX6_isUnder_28 : decode cX6_isUnder 28 = .ok (.iconst 0, 1) := by decide +kernel
theorem dX6_isUnder_29 : decode cX6_isUnder 29 = .ok (.ireturn, 1) := by decide +kernel
theorem dX6_isKind_0 : decode cX6_isKind 0 = .ok (.iload_n 0, 1) := by decide +kernel
theorem dX6_isKind_1 : decode cX6_isKind 1 = .ok (.i2l, 1) := by decide +kernel
theorem dX6_isKind_2 : decode cX6_isKind 2 = .ok (.lconst 0, 1) := by decide +kernel
theorem dX6_isKind_3 : decode cX6_isKind 3 = .ok (.ldc2_w 62, 3) := by decide +kernel
theorem dX6_isKind_6 : decode cX6_isKind 6 = .ok (.invokestatic 54, 3) := by decide +kernel
theorem dX6_isKind_9 : decode cX6_isKind 9 = .ok (.ireturn, 1) := by decide +kernel
theorem dX6_uses_0 : decode cX6_uses 0 = .ok (.aload_n 0, 1) := by decide +kernel
theorem dX6_uses_1 : decode cX6_uses 1 = .ok (.iload_n 1, 1) := by decide +kernel
theorem dX6_uses_2 : decode cX6_uses 2 = .ok (.iconst 2, 1) := by decide +kernel
theorem dX6_uses_3 : decode cX6_uses 3 = .ok (.invokevirtual 64, 3) := by decide +kernel
theorem dX6_uses_6 : decode cX6_uses 6 = .ok (.istore_n 2, 1) := by decide +kernel
theorem dX6_uses_7 : decode cX6_uses 7 = .ok (.iconst 0, 1) := by decide +kernel
theorem dX6_uses_8 : decode cX6_uses 8 = .ok (.iconst 2, 1) := by decide +kernel
theorem dX6_uses_9 : decode cX6_uses 9 = .ok (.iload_n 2, 1) := by decide +kernel
theorem dX6_uses_10 : decode cX6_uses 10 = .ok (.imul, 1) := by decide +kernel
theorem dX6_uses_11 : decode cX6_uses 11 = .ok (.iconst 3, 1) := by decide +kernel
theorem dX6_uses_12 : decode cX6_uses 12 = .ok (.isub, 1) := by decide +kernel
theorem dX6_uses_13 : decode cX6_uses 13 = .ok (.invokestatic 68, 3) := by decide +kernel
theorem dX6_uses_16 : decode cX6_uses 16 = .ok (.istore_n 3, 1) := by decide +kernel
theorem dX6_uses_17 : decode cX6_uses 17 = .ok (.aload_n 0, 1) := by decide +kernel
theorem dX6_uses_18 : decode cX6_uses 18 = .ok (.getfield 9, 3) := by decide +kernel
theorem dX6_uses_21 : decode cX6_uses 21 = .ok (.iconst 0, 1) := by decide +kernel
theorem dX6_uses_22 : decode cX6_uses 22 = .ok (.iaload, 1) := by decide +kernel
theorem dX6_uses_23 : decode cX6_uses 23 = .ok (.iconst 2, 1) := by decide +kernel
theorem dX6_uses_24 : decode cX6_uses 24 = .ok (.irem, 1) := by decide +kernel
theorem dX6_uses_25 : decode cX6_uses 25 = .ok (.ifCond .ne 7, 3) := by decide +kernel
theorem dX6_uses_28 : decode cX6_uses 28 = .ok (.iload_n 2, 1) := by decide +kernel
theorem dX6_uses_29 : decode cX6_uses 29 = .ok (.goto 4, 3) := by decide +kernel
theorem dX6_uses_32 : decode cX6_uses 32 = .ok (.iconst 0, 1) := by decide +kernel
theorem dX6_uses_33 : decode cX6_uses 33 = .ok (.istore 4, 2) := by decide +kernel
theorem dX6_uses_35 : decode cX6_uses 35 = .ok (.aload_n 0, 1) := by decide +kernel
theorem dX6_uses_36 : decode cX6_uses 36 = .ok (.iload_n 1, 1) := by decide +kernel
theorem dX6_uses_37 : decode cX6_uses 37 = .ok (.iconst 0, 1) := by decide +kernel
theorem dX6_uses_38 : decode cX6_uses 38 = .ok (.invokevirtual 64, 3) := by decide +kernel
theorem dX6_uses_41 : decode cX6_uses 41 = .ok (.tableswitch 72 1 6 #[39, 47, 51, 53, 72, 42], 39) := by decide +kernel
theorem dX6_uses_80 : decode cX6_uses 80 = .ok (.iload 4, 2) := by decide +kernel
theorem dX6_uses_82 : decode cX6_uses 82 = .ok (.ireturn, 1) := by decide +kernel
theorem dX6_uses_83 : decode cX6_uses 83 = .ok (.iload 4, 2) := by decide +kernel
theorem dX6_uses_85 : decode cX6_uses 85 = .ok (.iconst 1, 1) := by decide +kernel
theorem dX6_uses_86 : decode cX6_uses 86 = .ok (.iadd, 1) := by decide +kernel
theorem dX6_uses_87 : decode cX6_uses 87 = .ok (.ireturn, 1) := by decide +kernel
theorem dX6_uses_88 : decode cX6_uses 88 = .ok (.iconst 2, 1) := by decide +kernel
theorem dX6_uses_89 : decode cX6_uses 89 = .ok (.iload_n 2, 1) := by decide +kernel
theorem dX6_uses_90 : decode cX6_uses 90 = .ok (.imul, 1) := by decide +kernel
theorem dX6_uses_91 : decode cX6_uses 91 = .ok (.ireturn, 1) := by decide +kernel
theorem dX6_uses_92 : decode cX6_uses 92 = .ok (.iload_n 3, 1) := by decide +kernel
theorem dX6_uses_93 : decode cX6_uses 93 = .ok (.ireturn, 1) := by decide +kernel
theorem dX6_uses_94 : decode cX6_uses 94 = .ok (.aload_n 0, 1) := by decide +kernel
theorem dX6_uses_95 : decode cX6_uses 95 = .ok (.getfield 9, 3) := by decide +kernel
theorem dX6_uses_98 : decode cX6_uses 98 = .ok (.iconst 0, 1) := by decide +kernel
theorem dX6_uses_99 : decode cX6_uses 99 = .ok (.iaload, 1) := by decide +kernel
theorem dX6_uses_100 : decode cX6_uses 100 = .ok (.bipush 6, 2) := by decide +kernel
theorem dX6_uses_102 : decode cX6_uses 102 = .ok (.irem, 1) := by decide +kernel
theorem dX6_uses_103 : decode cX6_uses 103 = .ok (.iconst 5, 1) := by decide +kernel
theorem dX6_uses_104 : decode cX6_uses 104 = .ok (.if_icmp .ne 7, 3) := by decide +kernel
theorem dX6_uses_107 : decode cX6_uses 107 = .ok (.iload_n 3, 1) := by decide +kernel
theorem dX6_uses_108 : decode cX6_uses 108 = .ok (.goto 4, 3) := by decide +kernel
theorem dX6_uses_111 : decode cX6_uses 111 = .ok (.iconst 0, 1) := by decide +kernel
theorem dX6_uses_112 : decode cX6_uses 112 = .ok (.ireturn, 1) := by decide +kernel
theorem dX6_uses_113 : decode cX6_uses 113 = .ok (.iload_n 2, 1) := by decide +kernel
theorem dX6_uses_114 : decode cX6_uses 114 = .ok (.ireturn, 1) := by decide +kernel
theorem dX6_keeps_0 : decode cX6_keeps 0 = .ok (.aload_n 0, 1) := by decide +kernel
theorem dX6_keeps_1 : decode cX6_keeps 1 = .ok (.iload_n 1, 1) := by decide +kernel
theorem dX6_keeps_2 : decode cX6_keeps 2 = .ok (.iconst 3, 1) := by decide +kernel
theorem dX6_keeps_3 : decode cX6_keeps 3 = .ok (.invokevirtual 64, 3) := by decide +kernel
theorem dX6_keeps_6 : decode cX6_keeps 6 = .ok (.istore_n 2, 1) := by decide +kernel
theorem dX6_keeps_7 : decode cX6_keeps 7 = .ok (.aload_n 0, 1) := by decide +kernel
theorem dX6_keeps_8 : decode cX6_keeps 8 = .ok (.iload_n 1, 1) := by decide +kernel
theorem dX6_keeps_9 : decode cX6_keeps 9 = .ok (.iconst 0, 1) := by decide +kernel
theorem dX6_keeps_10 : decode cX6_keeps 10 = .ok (.invokevirtual 64, 3) := by decide +kernel
theorem dX6_keeps_13 : decode cX6_keeps 13 = .ok (.tableswitch 55 2 6 #[40, 44, 44, 55, 35], 35) := by decide +kernel
theorem dX6_keeps_48 : decode cX6_keeps 48 = .ok (.iload_n 2, 1) := by decide +kernel
theorem dX6_keeps_49 : decode cX6_keeps 49 = .ok (.bipush 10, 2) := by decide +kernel
theorem dX6_keeps_51 : decode cX6_keeps 51 = .ok (.iadd, 1) := by decide +kernel
theorem dX6_keeps_52 : decode cX6_keeps 52 = .ok (.ireturn, 1) := by decide +kernel
theorem dX6_keeps_53 : decode cX6_keeps 53 = .ok (.iload_n 2, 1) := by decide +kernel
theorem dX6_keeps_54 : decode cX6_keeps 54 = .ok (.iconst 2, 1) := by decide +kernel
theorem dX6_keeps_55 : decode cX6_keeps 55 = .ok (.idiv, 1) := by decide +kernel
theorem dX6_keeps_56 : decode cX6_keeps 56 = .ok (.ireturn, 1) := by decide +kernel
theorem dX6_keeps_57 : decode cX6_keeps 57 = .ok (.iload_n 2, 1) := by decide +kernel
theorem dX6_keeps_58 : decode cX6_keeps 58 = .ok (.iconst 2, 1) := by decide +kernel
theorem dX6_keeps_59 : decode cX6_keeps 59 = .ok (.idiv, 1) := by decide +kernel
theorem dX6_keeps_60 : decode cX6_keeps 60 = .ok (.aload_n 0, 1) := by decide +kernel
theorem dX6_keeps_61 : decode cX6_keeps 61 = .ok (.iload_n 1, 1) := by decide +kernel
theorem dX6_keeps_62 : decode cX6_keeps 62 = .ok (.iconst 2, 1) := by decide +kernel
theorem dX6_keeps_63 : decode cX6_keeps 63 = .ok (.invokevirtual 64, 3) := by decide +kernel
theorem dX6_keeps_66 : decode cX6_keeps 66 = .ok (.iadd, 1) := by decide +kernel
theorem dX6_keeps_67 : decode cX6_keeps 67 = .ok (.ireturn, 1) := by decide +kernel
theorem dX6_keeps_68 : decode cX6_keeps 68 = .ok (.iload_n 2, 1) := by decide +kernel
theorem dX6_keeps_69 : decode cX6_keeps 69 = .ok (.ireturn, 1) := by decide +kernel
theorem dX6_loses_0 : decode cX6_loses 0 = .ok (.aload_n 0, 1) := by decide +kernel
theorem dX6_loses_1 : decode cX6_loses 1 = .ok (.iload_n 1, 1) := by decide +kernel
theorem dX6_loses_2 : decode cX6_loses 2 = .ok (.iconst 0, 1) := by decide +kernel
theorem dX6_loses_3 : decode cX6_loses 3 = .ok (.invokevirtual 64, 3) := by decide +kernel
theorem dX6_loses_6 : decode cX6_loses 6 = .ok (.istore_n 2, 1) := by decide +kernel
theorem dX6_loses_7 : decode cX6_loses 7 = .ok (.iload_n 2, 1) := by decide +kernel
theorem dX6_loses_8 : decode cX6_loses 8 = .ok (.iconst 5, 1) := by decide +kernel
theorem dX6_loses_9 : decode cX6_loses 9 = .ok (.if_icmp .ne 7, 3) := by decide +kernel
theorem dX6_loses_12 : decode cX6_loses 12 = .ok (.iconst 5, 1) := by decide +kernel
theorem dX6_loses_13 : decode cX6_loses 13 = .ok (.goto 16, 3) := by decide +kernel
theorem dX6_loses_16 : decode cX6_loses 16 = .ok (.iload_n 2, 1) := by decide +kernel
theorem dX6_loses_17 : decode cX6_loses 17 = .ok (.iconst 2, 1) := by decide +kernel
theorem dX6_loses_18 : decode cX6_loses 18 = .ok (.invokestatic 73, 3) := by decide +kernel
theorem dX6_loses_21 : decode cX6_loses 21 = .ok (.ifCond .eq 7, 3) := by decide +kernel
theorem dX6_loses_24 : decode cX6_loses 24 = .ok (.iconst 1, 1) := by decide +kernel
theorem dX6_loses_25 : decode cX6_loses 25 = .ok (.goto 4, 3) := by decide +kernel
theorem dX6_loses_28 : decode cX6_loses 28 = .ok (.iconst 0, 1) := by decide +kernel
theorem dX6_loses_29 : decode cX6_loses 29 = .ok (.ireturn, 1) := by decide +kernel
theorem dX6_leads_0 : decode cX6_leads 0 = .ok (.iload_n 1, 1) := by decide +kernel
theorem dX6_leads_1 : decode cX6_leads 1 = .ok (.iconst 1, 1) := by decide +kernel
theorem dX6_leads_2 : decode cX6_leads 2 = .ok (.iadd, 1) := by decide +kernel
theorem dX6_leads_3 : decode cX6_leads 3 = .ok (.aload_n 0, 1) := by decide +kernel
theorem dX6_leads_4 : decode cX6_leads 4 = .ok (.iload_n 1, 1) := by decide +kernel
theorem dX6_leads_5 : decode cX6_leads 5 = .ok (.iconst 4, 1) := by decide +kernel
theorem dX6_leads_6 : decode cX6_leads 6 = .ok (.invokevirtual 64, 3) := by decide +kernel
theorem dX6_leads_9 : decode cX6_leads 9 = .ok (.iadd, 1) := by decide +kernel
theorem dX6_leads_10 : decode cX6_leads 10 = .ok (.istore_n 2, 1) := by decide +kernel
theorem dX6_leads_11 : decode cX6_leads 11 = .ok (.iload_n 2, 1) := by decide +kernel
theorem dX6_leads_12 : decode cX6_leads 12 = .ok (.bipush 11, 2) := by decide +kernel
theorem dX6_leads_14 : decode cX6_leads 14 = .ok (.if_icmp .ge 7, 3) := by decide +kernel
theorem dX6_leads_17 : decode cX6_leads 17 = .ok (.iload_n 2, 1) := by decide +kernel
theorem dX6_leads_18 : decode cX6_leads 18 = .ok (.goto 4, 3) := by decide +kernel
theorem dX6_leads_21 : decode cX6_leads 21 = .ok (.iconst (-1), 1) := by decide +kernel
theorem dX6_leads_22 : decode cX6_leads 22 = .ok (.ireturn, 1) := by decide +kernel
theorem dX6_mayBe_0 : decode cX6_mayBe 0 = .ok (.iload_n 0, 1) := by decide +kernel
theorem dX6_mayBe_1 : decode cX6_mayBe 1 = .ok (.tableswitch 74 0 5 #[39, 44, 54, 64, 74, 44], 39) := by decide +kernel
theorem dX6_mayBe_40 : decode cX6_mayBe 40 = .ok (.iload_n 1, 1) := by decide +kernel
theorem dX6_mayBe_41 : decode cX6_mayBe 41 = .ok (.invokestatic 77, 3) := by decide +kernel
theorem dX6_mayBe_44 : decode cX6_mayBe 44 = .ok (.ireturn, 1) := by decide +kernel
theorem dX6_mayBe_45 : decode cX6_mayBe 45 = .ok (.iload_n 1, 1) := by decide +kernel
theorem dX6_mayBe_46 : decode cX6_mayBe 46 = .ok (.i2l, 1) := by decide +kernel
theorem dX6_mayBe_47 : decode cX6_mayBe 47 = .ok (.lconst 0, 1) := by decide +kernel
theorem dX6_mayBe_48 : decode cX6_mayBe 48 = .ok (.ldc2_w 81, 3) := by decide +kernel
theorem dX6_mayBe_51 : decode cX6_mayBe 51 = .ok (.invokestatic 54, 3) := by decide +kernel
theorem dX6_mayBe_54 : decode cX6_mayBe 54 = .ok (.ireturn, 1) := by decide +kernel
theorem dX6_mayBe_55 : decode cX6_mayBe 55 = .ok (.iload_n 1, 1) := by decide +kernel
theorem dX6_mayBe_56 : decode cX6_mayBe 56 = .ok (.i2l, 1) := by decide +kernel
theorem dX6_mayBe_57 : decode cX6_mayBe 57 = .ok (.lconst 0, 1) := by decide +kernel
theorem dX6_mayBe_58 : decode cX6_mayBe 58 = .ok (.ldc2_w 83, 3) := by decide +kernel
theorem dX6_mayBe_61 : decode cX6_mayBe 61 = .ok (.invokestatic 54, 3) := by decide +kernel
theorem dX6_mayBe_64 : decode cX6_mayBe 64 = .ok (.ireturn, 1) := by decide +kernel
theorem dX6_mayBe_65 : decode cX6_mayBe 65 = .ok (.iload_n 1, 1) := by decide +kernel
theorem dX6_mayBe_66 : decode cX6_mayBe 66 = .ok (.i2l, 1) := by decide +kernel
theorem dX6_mayBe_67 : decode cX6_mayBe 67 = .ok (.lconst 0, 1) := by decide +kernel
theorem dX6_mayBe_68 : decode cX6_mayBe 68 = .ok (.ldc2_w 85, 3) := by decide +kernel
theorem dX6_mayBe_71 : decode cX6_mayBe 71 = .ok (.invokestatic 54, 3) := by decide +kernel
theorem dX6_mayBe_74 : decode cX6_mayBe 74 = .ok (.ireturn, 1) := by decide +kernel
theorem dX6_mayBe_75 : decode cX6_mayBe 75 = .ok (.iload_n 0, 1) := by decide +kernel
theorem dX6_mayBe_76 : decode cX6_mayBe 76 = .ok (.iconst 4, 1) := by decide +kernel
theorem dX6_mayBe_77 : decode cX6_mayBe 77 = .ok (.if_icmp .ne 17, 3) := by decide +kernel
theorem dX6_mayBe_80 : decode cX6_mayBe 80 = .ok (.iload_n 1, 1) := by decide +kernel
theorem dX6_mayBe_81 : decode cX6_mayBe 81 = .ok (.i2l, 1) := by decide +kernel
theorem dX6_mayBe_82 : decode cX6_mayBe 82 = .ok (.lconst 0, 1) := by decide +kernel
theorem dX6_mayBe_83 : decode cX6_mayBe 83 = .ok (.lconst 1, 1) := by decide +kernel
theorem dX6_mayBe_84 : decode cX6_mayBe 84 = .ok (.invokestatic 54, 3) := by decide +kernel
theorem dX6_mayBe_87 : decode cX6_mayBe 87 = .ok (.ifCond .eq 7, 3) := by decide +kernel
theorem dX6_mayBe_90 : decode cX6_mayBe 90 = .ok (.iconst 1, 1) := by decide +kernel
theorem dX6_mayBe_91 : decode cX6_mayBe 91 = .ok (.goto 4, 3) := by decide +kernel
theorem dX6_mayBe_94 : decode cX6_mayBe 94 = .ok (.iconst 0, 1) := by decide +kernel
theorem dX6_mayBe_95 : decode cX6_mayBe 95 = .ok (.ireturn, 1) := by decide +kernel
theorem dX6_change_0 : decode cX6_change 0 = .ok (.iload_n 1, 1) := by decide +kernel
theorem dX6_change_1 : decode cX6_change 1 = .ok (.invokestatic 87, 3) := by decide +kernel
theorem dX6_change_4 : decode cX6_change 4 = .ok (.ifCond .eq 27, 3) := by decide +kernel
theorem dX6_change_7 : decode cX6_change 7 = .ok (.iload_n 2, 1) := by decide +kernel
theorem dX6_change_8 : decode cX6_change 8 = .ok (.iload_n 3, 1) := by decide +kernel
theorem dX6_change_9 : decode cX6_change 9 = .ok (.invokestatic 90, 3) := by decide +kernel
theorem dX6_change_12 : decode cX6_change 12 = .ok (.ifCond .eq 19, 3) := by decide +kernel
theorem dX6_change_15 : decode cX6_change 15 = .ok (.aload_n 0, 1) := by decide +kernel
theorem dX6_change_16 : decode cX6_change 16 = .ok (.iconst 5, 1) := by decide +kernel
theorem dX6_change_17 : decode cX6_change 17 = .ok (.bipush 6, 2) := by decide +kernel
theorem dX6_change_19 : decode cX6_change 19 = .ok (.iload_n 1, 1) := by decide +kernel
theorem dX6_change_20 : decode cX6_change 20 = .ok (.imul, 1) := by decide +kernel
theorem dX6_change_21 : decode cX6_change 21 = .ok (.iadd, 1) := by decide +kernel
theorem dX6_change_22 : decode cX6_change 22 = .ok (.iload_n 2, 1) := by decide +kernel
theorem dX6_change_23 : decode cX6_change 23 = .ok (.iadd, 1) := by decide +kernel
theorem dX6_change_24 : decode cX6_change 24 = .ok (.iload_n 3, 1) := by decide +kernel
theorem dX6_change_25 : decode cX6_change 25 = .ok (.invokevirtual 93, 3) := by decide +kernel
theorem dX6_change_28 : decode cX6_change 28 = .ok (.goto 8, 3) := by decide +kernel
theorem dX6_change_31 : decode cX6_change 31 = .ok (.aload_n 0, 1) := by decide +kernel
theorem dX6_change_32 : decode cX6_change 32 = .ok (.iconst 0, 1) := by decide +kernel
theorem dX6_change_33 : decode cX6_change 33 = .ok (.invokevirtual 96, 3) := by decide +kernel
theorem dX6_change_36 : decode cX6_change 36 = .ok (.ireturn, 1) := by decide +kernel
theorem dX6_of_0 : decode cX6_of 0 = .ok (.iload_n 1, 1) := by decide +kernel
theorem dX6_of_1 : decode cX6_of 1 = .ok (.invokestatic 87, 3) := by decide +kernel
theorem dX6_of_4 : decode cX6_of 4 = .ok (.ifCond .eq 15, 3) := by decide +kernel
theorem dX6_of_7 : decode cX6_of 7 = .ok (.iload_n 2, 1) := by decide +kernel
theorem dX6_of_8 : decode cX6_of 8 = .ok (.i2l, 1) := by decide +kernel
theorem dX6_of_9 : decode cX6_of 9 = .ok (.lconst 0, 1) := by decide +kernel
theorem dX6_of_10 : decode cX6_of 10 = .ok (.ldc2_w 99, 3) := by decide +kernel
theorem dX6_of_13 : decode cX6_of 13 = .ok (.invokestatic 54, 3) := by decide +kernel
theorem dX6_of_16 : decode cX6_of 16 = .ok (.ifCond .ne 9, 3) := by decide +kernel
theorem dX6_of_19 : decode cX6_of 19 = .ok (.aload_n 0, 1) := by decide +kernel
theorem dX6_of_20 : decode cX6_of 20 = .ok (.iconst 0, 1) := by decide +kernel
theorem dX6_of_21 : decode cX6_of 21 = .ok (.invokevirtual 96, 3) := by decide +kernel
theorem dX6_of_24 : decode cX6_of 24 = .ok (.ireturn, 1) := by decide +kernel
theorem dX6_of_25 : decode cX6_of 25 = .ok (.iload_n 2, 1) := by decide +kernel
theorem dX6_of_26 : decode cX6_of 26 = .ok (.tableswitch 54 6 9 #[30, 36, 42, 48], 30) := by decide +kernel
theorem dX6_of_56 : decode cX6_of 56 = .ok (.aload_n 0, 1) := by decide +kernel
theorem dX6_of_57 : decode cX6_of 57 = .ok (.iload_n 1, 1) := by decide +kernel
theorem dX6_of_58 : decode cX6_of 58 = .ok (.invokevirtual 101, 3) := by decide +kernel
theorem dX6_of_61 : decode cX6_of 61 = .ok (.ireturn, 1) := by decide +kernel
theorem dX6_of_62 : decode cX6_of 62 = .ok (.aload_n 0, 1) := by decide +kernel
theorem dX6_of_63 : decode cX6_of 63 = .ok (.iload_n 1, 1) := by decide +kernel
theorem dX6_of_64 : decode cX6_of 64 = .ok (.invokevirtual 104, 3) := by decide +kernel
theorem dX6_of_67 : decode cX6_of 67 = .ok (.ireturn, 1) := by decide +kernel
theorem dX6_of_68 : decode cX6_of 68 = .ok (.aload_n 0, 1) := by decide +kernel
theorem dX6_of_69 : decode cX6_of 69 = .ok (.iload_n 1, 1) := by decide +kernel
theorem dX6_of_70 : decode cX6_of 70 = .ok (.invokevirtual 107, 3) := by decide +kernel
theorem dX6_of_73 : decode cX6_of 73 = .ok (.ireturn, 1) := by decide +kernel
theorem dX6_of_74 : decode cX6_of 74 = .ok (.aload_n 0, 1) := by decide +kernel
theorem dX6_of_75 : decode cX6_of 75 = .ok (.iload_n 1, 1) := by decide +kernel
theorem dX6_of_76 : decode cX6_of 76 = .ok (.invokevirtual 110, 3) := by decide +kernel
theorem dX6_of_79 : decode cX6_of 79 = .ok (.ireturn, 1) := by decide +kernel
theorem dX6_of_80 : decode cX6_of 80 = .ok (.aload_n 0, 1) := by decide +kernel
theorem dX6_of_81 : decode cX6_of 81 = .ok (.iload_n 1, 1) := by decide +kernel
theorem dX6_of_82 : decode cX6_of 82 = .ok (.iload_n 2, 1) := by decide +kernel
theorem dX6_of_83 : decode cX6_of 83 = .ok (.invokevirtual 64, 3) := by decide +kernel
theorem dX6_of_86 : decode cX6_of 86 = .ok (.ireturn, 1) := by decide +kernel
theorem dX6_rain_0 : decode cX6_rain 0 = .ok (.iload_n 1, 1) := by decide +kernel
theorem dX6_rain_1 : decode cX6_rain 1 = .ok (.i2l, 1) := by decide +kernel
theorem dX6_rain_2 : decode cX6_rain 2 = .ok (.lconst 0, 1) := by decide +kernel
theorem dX6_rain_3 : decode cX6_rain 3 = .ok (.ldc2_w 85, 3) := by decide +kernel
theorem dX6_rain_6 : decode cX6_rain 6 = .ok (.invokestatic 54, 3) := by decide +kernel
theorem dX6_rain_9 : decode cX6_rain 9 = .ok (.ifCond .eq 12, 3) := by decide +kernel
theorem dX6_rain_12 : decode cX6_rain 12 = .ok (.aload_n 0, 1) := by decide +kernel
theorem dX6_rain_13 : decode cX6_rain 13 = .ok (.iconst 2, 1) := by decide +kernel
theorem dX6_rain_14 : decode cX6_rain 14 = .ok (.iload_n 1, 1) := by decide +kernel
theorem dX6_rain_15 : decode cX6_rain 15 = .ok (.invokevirtual 93, 3) := by decide +kernel
theorem dX6_rain_18 : decode cX6_rain 18 = .ok (.goto 8, 3) := by decide +kernel
theorem dX6_rain_21 : decode cX6_rain 21 = .ok (.aload_n 0, 1) := by decide +kernel
theorem dX6_rain_22 : decode cX6_rain 22 = .ok (.iconst 0, 1) := by decide +kernel
theorem dX6_rain_23 : decode cX6_rain 23 = .ok (.invokevirtual 96, 3) := by decide +kernel
theorem dX6_rain_26 : decode cX6_rain 26 = .ok (.ireturn, 1) := by decide +kernel
theorem dX6_spoutSet_0 : decode cX6_spoutSet 0 = .ok (.iconst 0, 1) := by decide +kernel
theorem dX6_spoutSet_1 : decode cX6_spoutSet 1 = .ok (.istore_n 1, 1) := by decide +kernel
theorem dX6_spoutSet_2 : decode cX6_spoutSet 2 = .ok (.iconst 0, 1) := by decide +kernel
theorem dX6_spoutSet_3 : decode cX6_spoutSet 3 = .ok (.istore_n 2, 1) := by decide +kernel
theorem dX6_spoutSet_4 : decode cX6_spoutSet 4 = .ok (.iload_n 2, 1) := by decide +kernel
theorem dX6_spoutSet_5 : decode cX6_spoutSet 5 = .ok (.bipush 11, 2) := by decide +kernel
theorem dX6_spoutSet_7 : decode cX6_spoutSet 7 = .ok (.if_icmp .ge 20, 3) := by decide +kernel
theorem dX6_spoutSet_10 : decode cX6_spoutSet 10 = .ok (.iload_n 1, 1) := by decide +kernel
theorem dX6_spoutSet_11 : decode cX6_spoutSet 11 = .ok (.aload_n 0, 1) := by decide +kernel
theorem dX6_spoutSet_12 : decode cX6_spoutSet 12 = .ok (.iload_n 2, 1) := by decide +kernel
theorem dX6_spoutSet_13 : decode cX6_spoutSet 13 = .ok (.iconst 4, 1) := by decide +kernel
theorem dX6_spoutSet_14 : decode cX6_spoutSet 14 = .ok (.invokevirtual 64, 3) := by decide +kernel
theorem dX6_spoutSet_17 : decode cX6_spoutSet 17 = .ok (.iload_n 2, 1) := by decide +kernel
theorem dX6_spoutSet_18 : decode cX6_spoutSet 18 = .ok (.ishl, 1) := by decide +kernel
theorem dX6_spoutSet_19 : decode cX6_spoutSet 19 = .ok (.ior, 1) := by decide +kernel
theorem dX6_spoutSet_20 : decode cX6_spoutSet 20 = .ok (.istore_n 1, 1) := by decide +kernel
theorem dX6_spoutSet_21 : decode cX6_spoutSet 21 = .ok (.iinc 2 1, 3) := by decide +kernel
theorem dX6_spoutSet_24 : decode cX6_spoutSet 24 = .ok (.goto (-20), 3) := by decide +kernel
theorem dX6_spoutSet_27 : decode cX6_spoutSet 27 = .ok (.iload_n 1, 1) := by decide +kernel
theorem dX6_spoutSet_28 : decode cX6_spoutSet 28 = .ok (.ireturn, 1) := by decide +kernel
theorem dX6_spouts_0 : decode cX6_spouts 0 = .ok (.iload_n 1, 1) := by decide +kernel
theorem dX6_spouts_1 : decode cX6_spouts 1 = .ok (.i2l, 1) := by decide +kernel
theorem dX6_spouts_2 : decode cX6_spouts 2 = .ok (.lconst 0, 1) := by decide +kernel
theorem dX6_spouts_3 : decode cX6_spouts 3 = .ok (.ldc2_w 113, 3) := by decide +kernel
theorem dX6_spouts_6 : decode cX6_spouts 6 = .ok (.invokestatic 54, 3) := by decide +kernel
theorem dX6_spouts_9 : decode cX6_spouts 9 = .ok (.ifCond .ne 9, 3) := by decide +kernel
theorem dX6_spouts_12 : decode cX6_spouts 12 = .ok (.aload_n 0, 1) := by decide +kernel
theorem dX6_spouts_13 : decode cX6_spouts 13 = .ok (.iconst 0, 1) := by decide +kernel
theorem dX6_spouts_14 : decode cX6_spouts 14 = .ok (.invokevirtual 96, 3) := by decide +kernel
theorem dX6_spouts_17 : decode cX6_spouts 17 = .ok (.ireturn, 1) := by decide +kernel
theorem dX6_spouts_18 : decode cX6_spouts 18 = .ok (.aload_n 0, 1) := by decide +kernel
theorem dX6_spouts_19 : decode cX6_spouts 19 = .ok (.invokevirtual 115, 3) := by decide +kernel
theorem dX6_spouts_22 : decode cX6_spouts 22 = .ok (.istore_n 2, 1) := by decide +kernel
theorem dX6_spouts_23 : decode cX6_spouts 23 = .ok (.iconst 0, 1) := by decide +kernel
theorem dX6_spouts_24 : decode cX6_spouts 24 = .ok (.istore_n 3, 1) := by decide +kernel
theorem dX6_spouts_25 : decode cX6_spouts 25 = .ok (.iload_n 3, 1) := by decide +kernel
theorem dX6_spouts_26 : decode cX6_spouts 26 = .ok (.bipush 11, 2) := by decide +kernel
theorem dX6_spouts_28 : decode cX6_spouts 28 = .ok (.if_icmp .ge 20, 3) := by decide +kernel
theorem dX6_spouts_31 : decode cX6_spouts 31 = .ok (.aload_n 0, 1) := by decide +kernel
theorem dX6_spouts_32 : decode cX6_spouts 32 = .ok (.iload_n 3, 1) := by decide +kernel
theorem dX6_spouts_33 : decode cX6_spouts 33 = .ok (.iconst 4, 1) := by decide +kernel
theorem dX6_spouts_34 : decode cX6_spouts 34 = .ok (.iload_n 1, 1) := by decide +kernel
theorem dX6_spouts_35 : decode cX6_spouts 35 = .ok (.iload_n 3, 1) := by decide +kernel
theorem dX6_spouts_36 : decode cX6_spouts 36 = .ok (.ishr, 1) := by decide +kernel
theorem dX6_spouts_37 : decode cX6_spouts 37 = .ok (.iconst 1, 1) := by decide +kernel
theorem dX6_spouts_38 : decode cX6_spouts 38 = .ok (.iand, 1) := by decide +kernel
theorem dX6_spouts_39 : decode cX6_spouts 39 = .ok (.invokevirtual 43, 3) := by decide +kernel
theorem dX6_spouts_42 : decode cX6_spouts 42 = .ok (.iinc 3 1, 3) := by decide +kernel
theorem dX6_spouts_45 : decode cX6_spouts 45 = .ok (.goto (-20), 3) := by decide +kernel
theorem dX6_spouts_48 : decode cX6_spouts 48 = .ok (.iload_n 2, 1) := by decide +kernel
theorem dX6_spouts_49 : decode cX6_spouts 49 = .ok (.ireturn, 1) := by decide +kernel
theorem dX6_lost_0 : decode cX6_lost 0 = .ok (.aload_n 0, 1) := by decide +kernel
theorem dX6_lost_1 : decode cX6_lost 1 = .ok (.getfield 9, 3) := by decide +kernel
theorem dX6_lost_4 : decode cX6_lost 4 = .ok (.iconst 4, 1) := by decide +kernel
theorem dX6_lost_5 : decode cX6_lost 5 = .ok (.ldc 119, 2) := by decide +kernel
theorem dX6_lost_7 : decode cX6_lost 7 = .ok (.aload_n 0, 1) := by decide +kernel
theorem dX6_lost_8 : decode cX6_lost 8 = .ok (.getfield 9, 3) := by decide +kernel
theorem dX6_lost_11 : decode cX6_lost 11 = .ok (.iconst 4, 1) := by decide +kernel
theorem dX6_lost_12 : decode cX6_lost 12 = .ok (.iaload, 1) := by decide +kernel
theorem dX6_lost_13 : decode cX6_lost 13 = .ok (.iload_n 1, 1) := by decide +kernel
theorem dX6_lost_14 : decode cX6_lost 14 = .ok (.iadd, 1) := by decide +kernel
theorem dX6_lost_15 : decode cX6_lost 15 = .ok (.invokestatic 120, 3) := by decide +kernel
theorem dX6_lost_18 : decode cX6_lost 18 = .ok (.iastore, 1) := by decide +kernel
theorem dX6_lost_19 : decode cX6_lost 19 = .ok (.return_, 1) := by decide +kernel
theorem dX6_comes_0 : decode cX6_comes 0 = .ok (.aload_n 0, 1) := by decide +kernel
theorem dX6_comes_1 : decode cX6_comes 1 = .ok (.iload_n 1, 1) := by decide +kernel
theorem dX6_comes_2 : decode cX6_comes 2 = .ok (.iconst 1, 1) := by decide +kernel
theorem dX6_comes_3 : decode cX6_comes 3 = .ok (.invokevirtual 64, 3) := by decide +kernel
theorem dX6_comes_6 : decode cX6_comes 6 = .ok (.iload_n 2, 1) := by decide +kernel
theorem dX6_comes_7 : decode cX6_comes 7 = .ok (.iadd, 1) := by decide +kernel
theorem dX6_comes_8 : decode cX6_comes 8 = .ok (.istore_n 3, 1) := by decide +kernel
theorem dX6_comes_9 : decode cX6_comes 9 = .ok (.aload_n 0, 1) := by decide +kernel
theorem dX6_comes_10 : decode cX6_comes 10 = .ok (.iconst 0, 1) := by decide +kernel
theorem dX6_comes_11 : decode cX6_comes 11 = .ok (.iload_n 3, 1) := by decide +kernel
theorem dX6_comes_12 : decode cX6_comes 12 = .ok (.sipush 9999, 3) := by decide +kernel
theorem dX6_comes_15 : decode cX6_comes 15 = .ok (.isub, 1) := by decide +kernel
theorem dX6_comes_16 : decode cX6_comes 16 = .ok (.invokestatic 68, 3) := by decide +kernel
theorem dX6_comes_19 : decode cX6_comes 19 = .ok (.invokevirtual 123, 3) := by decide +kernel
theorem dX6_comes_22 : decode cX6_comes 22 = .ok (.aload_n 0, 1) := by decide +kernel
theorem dX6_comes_23 : decode cX6_comes 23 = .ok (.iload_n 1, 1) := by decide +kernel
theorem dX6_comes_24 : decode cX6_comes 24 = .ok (.iconst 1, 1) := by decide +kernel
theorem dX6_comes_25 : decode cX6_comes 25 = .ok (.sipush 9999, 3) := by decide +kernel
theorem dX6_comes_28 : decode cX6_comes 28 = .ok (.iload_n 3, 1) := by decide +kernel
theorem dX6_comes_29 : decode cX6_comes 29 = .ok (.invokestatic 120, 3) := by decide +kernel
theorem dX6_comes_32 : decode cX6_comes 32 = .ok (.invokevirtual 43, 3) := by decide +kernel
theorem dX6_comes_35 : decode cX6_comes 35 = .ok (.return_, 1) := by decide +kernel
theorem dX6_pour_0 : decode cX6_pour 0 = .ok (.iload_n 1, 1) := by decide +kernel
theorem dX6_pour_1 : decode cX6_pour 1 = .ok (.invokestatic 87, 3) := by decide +kernel
theorem dX6_pour_4 : decode cX6_pour 4 = .ok (.ifCond .eq 15, 3) := by decide +kernel
theorem dX6_pour_7 : decode cX6_pour 7 = .ok (.iload_n 2, 1) := by decide +kernel
theorem dX6_pour_8 : decode cX6_pour 8 = .ok (.i2l, 1) := by decide +kernel
theorem dX6_pour_9 : decode cX6_pour 9 = .ok (.lconst 0, 1) := by decide +kernel
theorem dX6_pour_10 : decode cX6_pour 10 = .ok (.ldc2_w 81, 3) := by decide +kernel
theorem dX6_pour_13 : decode cX6_pour 13 = .ok (.invokestatic 54, 3) := by decide +kernel
theorem dX6_pour_16 : decode cX6_pour 16 = .ok (.ifCond .ne 9, 3) := by decide +kernel
theorem dX6_pour_19 : decode cX6_pour 19 = .ok (.aload_n 0, 1) := by decide +kernel
theorem dX6_pour_20 : decode cX6_pour 20 = .ok (.iconst 0, 1) := by decide +kernel
theorem dX6_pour_21 : decode cX6_pour 21 = .ok (.invokevirtual 96, 3) := by decide +kernel
theorem dX6_pour_24 : decode cX6_pour 24 = .ok (.ireturn, 1) := by decide +kernel
theorem dX6_pour_25 : decode cX6_pour 25 = .ok (.aload_n 0, 1) := by decide +kernel
theorem dX6_pour_26 : decode cX6_pour 26 = .ok (.iload_n 1, 1) := by decide +kernel
theorem dX6_pour_27 : decode cX6_pour 27 = .ok (.iload_n 2, 1) := by decide +kernel
theorem dX6_pour_28 : decode cX6_pour 28 = .ok (.invokevirtual 127, 3) := by decide +kernel
theorem dX6_pour_31 : decode cX6_pour 31 = .ok (.aload_n 0, 1) := by decide +kernel
theorem dX6_pour_32 : decode cX6_pour 32 = .ok (.iload_n 1, 1) := by decide +kernel
theorem dX6_pour_33 : decode cX6_pour 33 = .ok (.iconst 1, 1) := by decide +kernel
theorem dX6_pour_34 : decode cX6_pour 34 = .ok (.invokevirtual 64, 3) := by decide +kernel
theorem dX6_pour_37 : decode cX6_pour 37 = .ok (.ireturn, 1) := by decide +kernel
theorem dX6_takesOwn_0 : decode cX6_takesOwn 0 = .ok (.aload_n 0, 1) := by decide +kernel
theorem dX6_takesOwn_1 : decode cX6_takesOwn 1 = .ok (.iload_n 1, 1) := by decide +kernel
theorem dX6_takesOwn_2 : decode cX6_takesOwn 2 = .ok (.invokevirtual 101, 3) := by decide +kernel
theorem dX6_takesOwn_5 : decode cX6_takesOwn 5 = .ok (.istore_n 2, 1) := by decide +kernel
theorem dX6_takesOwn_6 : decode cX6_takesOwn 6 = .ok (.aload_n 0, 1) := by decide +kernel
theorem dX6_takesOwn_7 : decode cX6_takesOwn 7 = .ok (.iload_n 1, 1) := by decide +kernel
theorem dX6_takesOwn_8 : decode cX6_takesOwn 8 = .ok (.iconst 1, 1) := by decide +kernel
theorem dX6_takesOwn_9 : decode cX6_takesOwn 9 = .ok (.invokevirtual 64, 3) := by decide +kernel
theorem dX6_takesOwn_12 : decode cX6_takesOwn 12 = .ok (.iload_n 2, 1) := by decide +kernel
theorem dX6_takesOwn_13 : decode cX6_takesOwn 13 = .ok (.isub, 1) := by decide +kernel
theorem dX6_takesOwn_14 : decode cX6_takesOwn 14 = .ok (.istore_n 3, 1) := by decide +kernel
theorem dX6_takesOwn_15 : decode cX6_takesOwn 15 = .ok (.iload_n 3, 1) := by decide +kernel
theorem dX6_takesOwn_16 : decode cX6_takesOwn 16 = .ok (.ifCond .ge 35, 3) := by decide +kernel
theorem dX6_takesOwn_19 : decode cX6_takesOwn 19 = .ok (.aload_n 0, 1) := by decide +kernel
theorem dX6_takesOwn_20 : decode cX6_takesOwn 20 = .ok (.dup, 1) := by decide +kernel
theorem dX6_takesOwn_21 : decode cX6_takesOwn 21 = .ok (.getfield 131, 3) := by decide +kernel
theorem dX6_takesOwn_24 : decode cX6_takesOwn 24 = .ok (.iconst 1, 1) := by decide +kernel
theorem dX6_takesOwn_25 : decode cX6_takesOwn 25 = .ok (.iload_n 1, 1) := by decide +kernel
theorem dX6_takesOwn_26 : decode cX6_takesOwn 26 = .ok (.ishl, 1) := by decide +kernel
theorem dX6_takesOwn_27 : decode cX6_takesOwn 27 = .ok (.ior, 1) := by decide +kernel
theorem dX6_takesOwn_28 : decode cX6_takesOwn 28 = .ok (.putfield 131, 3) := by decide +kernel
theorem dX6_takesOwn_31 : decode cX6_takesOwn 31 = .ok (.aload_n 0, 1) := by decide +kernel
theorem dX6_takesOwn_32 : decode cX6_takesOwn 32 = .ok (.iload_n 1, 1) := by decide +kernel
theorem dX6_takesOwn_33 : decode cX6_takesOwn 33 = .ok (.iconst 5, 1) := by decide +kernel
theorem dX6_takesOwn_34 : decode cX6_takesOwn 34 = .ok (.sipush 9999, 3) := by decide +kernel
theorem dX6_takesOwn_37 : decode cX6_takesOwn 37 = .ok (.aload_n 0, 1) := by decide +kernel
theorem dX6_takesOwn_38 : decode cX6_takesOwn 38 = .ok (.iload_n 1, 1) := by decide +kernel
theorem dX6_takesOwn_39 : decode cX6_takesOwn 39 = .ok (.iconst 5, 1) := by decide +kernel
theorem dX6_takesOwn_40 : decode cX6_takesOwn 40 = .ok (.invokevirtual 64, 3) := by decide +kernel
theorem dX6_takesOwn_43 : decode cX6_takesOwn 43 = .ok (.iconst 1, 1) := by decide +kernel
theorem dX6_takesOwn_44 : decode cX6_takesOwn 44 = .ok (.iadd, 1) := by decide +kernel
theorem dX6_takesOwn_45 : decode cX6_takesOwn 45 = .ok (.invokestatic 120, 3) := by decide +kernel
theorem dX6_takesOwn_48 : decode cX6_takesOwn 48 = .ok (.invokevirtual 43, 3) := by decide +kernel
theorem dX6_takesOwn_51 : decode cX6_takesOwn 51 = .ok (.aload_n 0, 1) := by decide +kernel
theorem dX6_takesOwn_52 : decode cX6_takesOwn 52 = .ok (.iload_n 1, 1) := by decide +kernel
theorem dX6_takesOwn_53 : decode cX6_takesOwn 53 = .ok (.iconst 1, 1) := by decide +kernel
theorem dX6_takesOwn_54 : decode cX6_takesOwn 54 = .ok (.iconst 0, 1) := by decide +kernel
theorem dX6_takesOwn_55 : decode cX6_takesOwn 55 = .ok (.iload_n 3, 1) := by decide +kernel
theorem dX6_takesOwn_56 : decode cX6_takesOwn 56 = .ok (.invokestatic 68, 3) := by decide +kernel
theorem dX6_takesOwn_59 : decode cX6_takesOwn 59 = .ok (.invokevirtual 43, 3) := by decide +kernel
theorem dX6_takesOwn_62 : decode cX6_takesOwn 62 = .ok (.return_, 1) := by decide +kernel
theorem dX6_anHour_0 : decode cX6_anHour 0 = .ok (.aload_n 0, 1) := by decide +kernel
theorem dX6_anHour_1 : decode cX6_anHour 1 = .ok (.iconst 0, 1) := by decide +kernel
theorem dX6_anHour_2 : decode cX6_anHour 2 = .ok (.putfield 131, 3) := by decide +kernel
theorem dX6_anHour_5 : decode cX6_anHour 5 = .ok (.aload_n 0, 1) := by decide +kernel
theorem dX6_anHour_6 : decode cX6_anHour 6 = .ok (.iconst 0, 1) := by decide +kernel
theorem dX6_anHour_7 : decode cX6_anHour 7 = .ok (.aload_n 0, 1) := by decide +kernel
theorem dX6_anHour_8 : decode cX6_anHour 8 = .ok (.getfield 9, 3) := by decide +kernel
theorem dX6_anHour_11 : decode cX6_anHour 11 = .ok (.iconst 2, 1) := by decide +kernel
theorem dX6_anHour_12 : decode cX6_anHour 12 = .ok (.iaload, 1) := by decide +kernel
theorem dX6_anHour_13 : decode cX6_anHour 13 = .ok (.invokevirtual 127, 3) := by decide +kernel
theorem dX6_anHour_16 : decode cX6_anHour 16 = .ok (.iconst 0, 1) := by decide +kernel
theorem dX6_anHour_17 : decode cX6_anHour 17 = .ok (.istore_n 1, 1) := by decide +kernel
theorem dX6_anHour_18 : decode cX6_anHour 18 = .ok (.iload_n 1, 1) := by decide +kernel
theorem dX6_anHour_19 : decode cX6_anHour 19 = .ok (.bipush 11, 2) := by decide +kernel
theorem dX6_anHour_21 : decode cX6_anHour 21 = .ok (.if_icmp .ge 14, 3) := by decide +kernel
theorem dX6_anHour_24 : decode cX6_anHour 24 = .ok (.aload_n 0, 1) := by decide +kernel
theorem dX6_anHour_25 : decode cX6_anHour 25 = .ok (.iload_n 1, 1) := by decide +kernel
theorem dX6_anHour_26 : decode cX6_anHour 26 = .ok (.invokevirtual 135, 3) := by decide +kernel
theorem dX6_anHour_29 : decode cX6_anHour 29 = .ok (.iinc 1 1, 3) := by decide +kernel
theorem dX6_anHour_32 : decode cX6_anHour 32 = .ok (.goto (-14), 3) := by decide +kernel
theorem dX6_anHour_35 : decode cX6_anHour 35 = .ok (.iconst 0, 1) := by decide +kernel
theorem dX6_anHour_36 : decode cX6_anHour 36 = .ok (.istore_n 1, 1) := by decide +kernel
theorem dX6_anHour_37 : decode cX6_anHour 37 = .ok (.iload_n 1, 1) := by decide +kernel
theorem dX6_anHour_38 : decode cX6_anHour 38 = .ok (.bipush 11, 2) := by decide +kernel
theorem dX6_anHour_40 : decode cX6_anHour 40 = .ok (.if_icmp .ge 50, 3) := by decide +kernel
theorem dX6_anHour_43 : decode cX6_anHour 43 = .ok (.aload_n 0, 1) := by decide +kernel
theorem dX6_anHour_44 : decode cX6_anHour 44 = .ok (.getfield 22, 3) := by decide +kernel
theorem dX6_anHour_47 : decode cX6_anHour 47 = .ok (.iload_n 1, 1) := by decide +kernel
theorem dX6_anHour_48 : decode cX6_anHour 48 = .ok (.iconst 0, 1) := by decide +kernel
theorem dX6_anHour_49 : decode cX6_anHour 49 = .ok (.aload_n 0, 1) := by decide +kernel
theorem dX6_anHour_50 : decode cX6_anHour 50 = .ok (.iload_n 1, 1) := by decide +kernel
theorem dX6_anHour_51 : decode cX6_anHour 51 = .ok (.iconst 1, 1) := by decide +kernel
theorem dX6_anHour_52 : decode cX6_anHour 52 = .ok (.invokevirtual 64, 3) := by decide +kernel
theorem dX6_anHour_55 : decode cX6_anHour 55 = .ok (.aload_n 0, 1) := by decide +kernel
theorem dX6_anHour_56 : decode cX6_anHour 56 = .ok (.iload_n 1, 1) := by decide +kernel
theorem dX6_anHour_57 : decode cX6_anHour 57 = .ok (.invokevirtual 104, 3) := by decide +kernel
theorem dX6_anHour_60 : decode cX6_anHour 60 = .ok (.isub, 1) := by decide +kernel
theorem dX6_anHour_61 : decode cX6_anHour 61 = .ok (.invokestatic 68, 3) := by decide +kernel
theorem dX6_anHour_64 : decode cX6_anHour 64 = .ok (.iastore, 1) := by decide +kernel
theorem dX6_anHour_65 : decode cX6_anHour 65 = .ok (.aload_n 0, 1) := by decide +kernel
theorem dX6_anHour_66 : decode cX6_anHour 66 = .ok (.iload_n 1, 1) := by decide +kernel
theorem dX6_anHour_67 : decode cX6_anHour 67 = .ok (.iconst 1, 1) := by decide +kernel
theorem dX6_anHour_68 : decode cX6_anHour 68 = .ok (.aload_n 0, 1) := by decide +kernel
theorem dX6_anHour_69 : decode cX6_anHour 69 = .ok (.iload_n 1, 1) := by decide +kernel
theorem dX6_anHour_70 : decode cX6_anHour 70 = .ok (.iconst 1, 1) := by decide +kernel
theorem dX6_anHour_71 : decode cX6_anHour 71 = .ok (.invokevirtual 64, 3) := by decide +kernel
theorem dX6_anHour_74 : decode cX6_anHour 74 = .ok (.aload_n 0, 1) := by decide +kernel
theorem dX6_anHour_75 : decode cX6_anHour 75 = .ok (.getfield 22, 3) := by decide +kernel
theorem dX6_anHour_78 : decode cX6_anHour 78 = .ok (.iload_n 1, 1) := by decide +kernel
theorem dX6_anHour_79 : decode cX6_anHour 79 = .ok (.iaload, 1) := by decide +kernel
theorem dX6_anHour_80 : decode cX6_anHour 80 = .ok (.isub, 1) := by decide +kernel
theorem dX6_anHour_81 : decode cX6_anHour 81 = .ok (.invokevirtual 43, 3) := by decide +kernel
theorem dX6_anHour_84 : decode cX6_anHour 84 = .ok (.iinc 1 1, 3) := by decide +kernel
theorem dX6_anHour_87 : decode cX6_anHour 87 = .ok (.goto (-50), 3) := by decide +kernel
theorem dX6_anHour_90 : decode cX6_anHour 90 = .ok (.iconst 0, 1) := by decide +kernel
theorem dX6_anHour_91 : decode cX6_anHour 91 = .ok (.istore_n 1, 1) := by decide +kernel
theorem dX6_anHour_92 : decode cX6_anHour 92 = .ok (.iload_n 1, 1) := by decide +kernel
theorem dX6_anHour_93 : decode cX6_anHour 93 = .ok (.bipush 11, 2) := by decide +kernel
theorem dX6_anHour_95 : decode cX6_anHour 95 = .ok (.if_icmp .ge 83, 3) := by decide +kernel
theorem dX6_anHour_98 : decode cX6_anHour 98 = .ok (.aload_n 0, 1) := by decide +kernel
theorem dX6_anHour_99 : decode cX6_anHour 99 = .ok (.getfield 22, 3) := by decide +kernel
theorem dX6_anHour_102 : decode cX6_anHour 102 = .ok (.iload_n 1, 1) := by decide +kernel
theorem dX6_anHour_103 : decode cX6_anHour 103 = .ok (.iaload, 1) := by decide +kernel
theorem dX6_anHour_104 : decode cX6_anHour 104 = .ok (.aload_n 0, 1) := by decide +kernel
theorem dX6_anHour_105 : decode cX6_anHour 105 = .ok (.iload_n 1, 1) := by decide +kernel
theorem dX6_anHour_106 : decode cX6_anHour 106 = .ok (.invokevirtual 107, 3) := by decide +kernel
theorem dX6_anHour_109 : decode cX6_anHour 109 = .ok (.invokestatic 120, 3) := by decide +kernel
theorem dX6_anHour_112 : decode cX6_anHour 112 = .ok (.istore_n 2, 1) := by decide +kernel
theorem dX6_anHour_113 : decode cX6_anHour 113 = .ok (.aload_n 0, 1) := by decide +kernel
theorem dX6_anHour_114 : decode cX6_anHour 114 = .ok (.iload_n 2, 1) := by decide +kernel
theorem dX6_anHour_115 : decode cX6_anHour 115 = .ok (.invokevirtual 123, 3) := by decide +kernel
theorem dX6_anHour_118 : decode cX6_anHour 118 = .ok (.aload_n 0, 1) := by decide +kernel
theorem dX6_anHour_119 : decode cX6_anHour 119 = .ok (.iload_n 1, 1) := by decide +kernel
theorem dX6_anHour_120 : decode cX6_anHour 120 = .ok (.invokevirtual 110, 3) := by decide +kernel
theorem dX6_anHour_123 : decode cX6_anHour 123 = .ok (.ifCond .lt 23, 3) := by decide +kernel
theorem dX6_anHour_126 : decode cX6_anHour 126 = .ok (.aload_n 0, 1) := by decide +kernel
theorem dX6_anHour_127 : decode cX6_anHour 127 = .ok (.aload_n 0, 1) := by decide +kernel
theorem dX6_anHour_128 : decode cX6_anHour 128 = .ok (.iload_n 1, 1) := by decide +kernel
theorem dX6_anHour_129 : decode cX6_anHour 129 = .ok (.invokevirtual 110, 3) := by decide +kernel
theorem dX6_anHour_132 : decode cX6_anHour 132 = .ok (.aload_n 0, 1) := by decide +kernel
theorem dX6_anHour_133 : decode cX6_anHour 133 = .ok (.getfield 22, 3) := by decide +kernel
theorem dX6_anHour_136 : decode cX6_anHour 136 = .ok (.iload_n 1, 1) := by decide +kernel
theorem dX6_anHour_137 : decode cX6_anHour 137 = .ok (.iaload, 1) := by decide +kernel
theorem dX6_anHour_138 : decode cX6_anHour 138 = .ok (.iload_n 2, 1) := by decide +kernel
theorem dX6_anHour_139 : decode cX6_anHour 139 = .ok (.isub, 1) := by decide +kernel
theorem dX6_anHour_140 : decode cX6_anHour 140 = .ok (.invokevirtual 127, 3) := by decide +kernel
theorem dX6_anHour_143 : decode cX6_anHour 143 = .ok (.goto 29, 3) := by decide +kernel
theorem dX6_anHour_146 : decode cX6_anHour 146 = .ok (.aload_n 0, 1) := by decide +kernel
theorem dX6_anHour_147 : decode cX6_anHour 147 = .ok (.getfield 9, 3) := by decide +kernel
theorem dX6_anHour_150 : decode cX6_anHour 150 = .ok (.iconst 3, 1) := by decide +kernel
theorem dX6_anHour_151 : decode cX6_anHour 151 = .ok (.ldc 119, 2) := by decide +kernel
theorem dX6_anHour_153 : decode cX6_anHour 153 = .ok (.aload_n 0, 1) := by decide +kernel
theorem dX6_anHour_154 : decode cX6_anHour 154 = .ok (.getfield 9, 3) := by decide +kernel
theorem dX6_anHour_157 : decode cX6_anHour 157 = .ok (.iconst 3, 1) := by decide +kernel
theorem dX6_anHour_158 : decode cX6_anHour 158 = .ok (.iaload, 1) := by decide +kernel
theorem dX6_anHour_159 : decode cX6_anHour 159 = .ok (.aload_n 0, 1) := by decide +kernel
theorem dX6_anHour_160 : decode cX6_anHour 160 = .ok (.getfield 22, 3) := by decide +kernel
theorem dX6_anHour_163 : decode cX6_anHour 163 = .ok (.iload_n 1, 1) := by decide +kernel
theorem dX6_anHour_164 : decode cX6_anHour 164 = .ok (.iaload, 1) := by decide +kernel
theorem dX6_anHour_165 : decode cX6_anHour 165 = .ok (.iadd, 1) := by decide +kernel
theorem dX6_anHour_166 : decode cX6_anHour 166 = .ok (.iload_n 2, 1) := by decide +kernel
theorem dX6_anHour_167 : decode cX6_anHour 167 = .ok (.isub, 1) := by decide +kernel
theorem dX6_anHour_168 : decode cX6_anHour 168 = .ok (.invokestatic 120, 3) := by decide +kernel
theorem dX6_anHour_171 : decode cX6_anHour 171 = .ok (.iastore, 1) := by decide +kernel
theorem dX6_anHour_172 : decode cX6_anHour 172 = .ok (.iinc 1 1, 3) := by decide +kernel
theorem dX6_anHour_175 : decode cX6_anHour 175 = .ok (.goto (-83), 3) := by decide +kernel
theorem dX6_anHour_178 : decode cX6_anHour 178 = .ok (.aload_n 0, 1) := by decide +kernel
theorem dX6_anHour_179 : decode cX6_anHour 179 = .ok (.getfield 9, 3) := by decide +kernel
theorem dX6_anHour_182 : decode cX6_anHour 182 = .ok (.iconst 0, 1) := by decide +kernel
theorem dX6_anHour_183 : decode cX6_anHour 183 = .ok (.dup2, 1) := by decide +kernel
theorem dX6_anHour_184 : decode cX6_anHour 184 = .ok (.iaload, 1) := by decide +kernel
theorem dX6_anHour_185 : decode cX6_anHour 185 = .ok (.iconst 1, 1) := by decide +kernel
theorem dX6_anHour_186 : decode cX6_anHour 186 = .ok (.iadd, 1) := by decide +kernel
theorem dX6_anHour_187 : decode cX6_anHour 187 = .ok (.iastore, 1) := by decide +kernel
theorem dX6_anHour_188 : decode cX6_anHour 188 = .ok (.return_, 1) := by decide +kernel
theorem dX6_hours_0 : decode cX6_hours 0 = .ok (.iconst 0, 1) := by decide +kernel
theorem dX6_hours_1 : decode cX6_hours 1 = .ok (.istore_n 2, 1) := by decide +kernel
theorem dX6_hours_2 : decode cX6_hours 2 = .ok (.iload_n 2, 1) := by decide +kernel
theorem dX6_hours_3 : decode cX6_hours 3 = .ok (.iload_n 1, 1) := by decide +kernel
theorem dX6_hours_4 : decode cX6_hours 4 = .ok (.if_icmp .ge 13, 3) := by decide +kernel
theorem dX6_hours_7 : decode cX6_hours 7 = .ok (.aload_n 0, 1) := by decide +kernel
theorem dX6_hours_8 : decode cX6_hours 8 = .ok (.invokevirtual 138, 3) := by decide +kernel
theorem dX6_hours_11 : decode cX6_hours 11 = .ok (.iinc 2 1, 3) := by decide +kernel
theorem dX6_hours_14 : decode cX6_hours 14 = .ok (.goto (-12), 3) := by decide +kernel
theorem dX6_hours_17 : decode cX6_hours 17 = .ok (.return_, 1) := by decide +kernel
theorem dX6_dryIn_0 : decode cX6_dryIn 0 = .ok (.iconst 0, 1) := by decide +kernel
theorem dX6_dryIn_1 : decode cX6_dryIn 1 = .ok (.istore_n 2, 1) := by decide +kernel
theorem dX6_dryIn_2 : decode cX6_dryIn 2 = .ok (.iconst 0, 1) := by decide +kernel
theorem dX6_dryIn_3 : decode cX6_dryIn 3 = .ok (.istore_n 3, 1) := by decide +kernel
theorem dX6_dryIn_4 : decode cX6_dryIn 4 = .ok (.iload_n 3, 1) := by decide +kernel
theorem dX6_dryIn_5 : decode cX6_dryIn 5 = .ok (.iload_n 1, 1) := by decide +kernel
theorem dX6_dryIn_6 : decode cX6_dryIn 6 = .ok (.if_icmp .ge 20, 3) := by decide +kernel
theorem dX6_dryIn_9 : decode cX6_dryIn 9 = .ok (.aload_n 0, 1) := by decide +kernel
theorem dX6_dryIn_10 : decode cX6_dryIn 10 = .ok (.invokevirtual 138, 3) := by decide +kernel
theorem dX6_dryIn_13 : decode cX6_dryIn 13 = .ok (.iload_n 2, 1) := by decide +kernel
theorem dX6_dryIn_14 : decode cX6_dryIn 14 = .ok (.aload_n 0, 1) := by decide +kernel
theorem dX6_dryIn_15 : decode cX6_dryIn 15 = .ok (.getfield 131, 3) := by decide +kernel
theorem dX6_dryIn_18 : decode cX6_dryIn 18 = .ok (.ior, 1) := by decide +kernel
theorem dX6_dryIn_19 : decode cX6_dryIn 19 = .ok (.istore_n 2, 1) := by decide +kernel
theorem dX6_dryIn_20 : decode cX6_dryIn 20 = .ok (.iinc 3 1, 3) := by decide +kernel
theorem dX6_dryIn_23 : decode cX6_dryIn 23 = .ok (.goto (-19), 3) := by decide +kernel
theorem dX6_dryIn_26 : decode cX6_dryIn 26 = .ok (.iload_n 2, 1) := by decide +kernel
theorem dX6_dryIn_27 : decode cX6_dryIn 27 = .ok (.ireturn, 1) := by decide +kernel
theorem dX6_go_0 : decode cX6_go 0 = .ok (.iload_n 1, 1) := by decide +kernel
theorem dX6_go_1 : decode cX6_go 1 = .ok (.i2l, 1) := by decide +kernel
theorem dX6_go_2 : decode cX6_go 2 = .ok (.lconst 1, 1) := by decide +kernel
theorem dX6_go_3 : decode cX6_go 3 = .ok (.ldc2_w 141, 3) := by decide +kernel
theorem dX6_go_6 : decode cX6_go 6 = .ok (.invokestatic 54, 3) := by decide +kernel
theorem dX6_go_9 : decode cX6_go 9 = .ok (.ifCond .ne 9, 3) := by decide +kernel
theorem dX6_go_12 : decode cX6_go 12 = .ok (.aload_n 0, 1) := by decide +kernel
theorem dX6_go_13 : decode cX6_go 13 = .ok (.iconst 0, 1) := by decide +kernel
theorem dX6_go_14 : decode cX6_go 14 = .ok (.invokevirtual 96, 3) := by decide +kernel
theorem dX6_go_17 : decode cX6_go 17 = .ok (.ireturn, 1) := by decide +kernel
theorem dX6_go_18 : decode cX6_go 18 = .ok (.aload_n 0, 1) := by decide +kernel
theorem dX6_go_19 : decode cX6_go 19 = .ok (.getfield 9, 3) := by decide +kernel
theorem dX6_go_22 : decode cX6_go 22 = .ok (.iconst 0, 1) := by decide +kernel
theorem dX6_go_23 : decode cX6_go 23 = .ok (.iaload, 1) := by decide +kernel
theorem dX6_go_24 : decode cX6_go 24 = .ok (.iload_n 1, 1) := by decide +kernel
theorem dX6_go_25 : decode cX6_go 25 = .ok (.iadd, 1) := by decide +kernel
theorem dX6_go_26 : decode cX6_go 26 = .ok (.ldc 143, 2) := by decide +kernel
theorem dX6_go_28 : decode cX6_go 28 = .ok (.if_icmp .le 9, 3) := by decide +kernel
theorem dX6_go_31 : decode cX6_go 31 = .ok (.aload_n 0, 1) := by decide +kernel
theorem dX6_go_32 : decode cX6_go 32 = .ok (.iconst 4, 1) := by decide +kernel
theorem dX6_go_33 : decode cX6_go 33 = .ok (.invokevirtual 96, 3) := by decide +kernel
theorem dX6_go_36 : decode cX6_go 36 = .ok (.ireturn, 1) := by decide +kernel
theorem dX6_go_37 : decode cX6_go 37 = .ok (.aload_n 0, 1) := by decide +kernel
theorem dX6_go_38 : decode cX6_go 38 = .ok (.iload_n 1, 1) := by decide +kernel
theorem dX6_go_39 : decode cX6_go 39 = .ok (.invokevirtual 144, 3) := by decide +kernel
theorem dX6_go_42 : decode cX6_go 42 = .ok (.aload_n 0, 1) := by decide +kernel
theorem dX6_go_43 : decode cX6_go 43 = .ok (.getfield 9, 3) := by decide +kernel
theorem dX6_go_46 : decode cX6_go 46 = .ok (.iconst 3, 1) := by decide +kernel
theorem dX6_go_47 : decode cX6_go 47 = .ok (.iaload, 1) := by decide +kernel
theorem dX6_go_48 : decode cX6_go 48 = .ok (.ireturn, 1) := by decide +kernel
theorem dX6_waters_0 : decode cX6_waters 0 = .ok (.iconst 0, 1) := by decide +kernel
theorem dX6_waters_1 : decode cX6_waters 1 = .ok (.istore_n 1, 1) := by decide +kernel
theorem dX6_waters_2 : decode cX6_waters 2 = .ok (.iconst 0, 1) := by decide +kernel
theorem dX6_waters_3 : decode cX6_waters 3 = .ok (.istore_n 2, 1) := by decide +kernel
theorem dX6_waters_4 : decode cX6_waters 4 = .ok (.iload_n 2, 1) := by decide +kernel
theorem dX6_waters_5 : decode cX6_waters 5 = .ok (.bipush 11, 2) := by decide +kernel
theorem dX6_waters_7 : decode cX6_waters 7 = .ok (.if_icmp .ge 18, 3) := by decide +kernel
theorem dX6_waters_10 : decode cX6_waters 10 = .ok (.iload_n 1, 1) := by decide +kernel
theorem dX6_waters_11 : decode cX6_waters 11 = .ok (.aload_n 0, 1) := by decide +kernel
theorem dX6_waters_12 : decode cX6_waters 12 = .ok (.iload_n 2, 1) := by decide +kernel
theorem dX6_waters_13 : decode cX6_waters 13 = .ok (.iconst 1, 1) := by decide +kernel
theorem dX6_waters_14 : decode cX6_waters 14 = .ok (.invokevirtual 64, 3) := by decide +kernel
theorem dX6_waters_17 : decode cX6_waters 17 = .ok (.iadd, 1) := by decide +kernel
theorem dX6_waters_18 : decode cX6_waters 18 = .ok (.istore_n 1, 1) := by decide +kernel
theorem dX6_waters_19 : decode cX6_waters 19 = .ok (.iinc 2 1, 3) := by decide +kernel
theorem dX6_waters_22 : decode cX6_waters 22 = .ok (.goto (-18), 3) := by decide +kernel
theorem dX6_waters_25 : decode cX6_waters 25 = .ok (.iload_n 1, 1) := by decide +kernel
theorem dX6_waters_26 : decode cX6_waters 26 = .ok (.ireturn, 1) := by decide +kernel
theorem dX6_dryEver_0 : decode cX6_dryEver 0 = .ok (.iconst 0, 1) := by decide +kernel
theorem dX6_dryEver_1 : decode cX6_dryEver 1 = .ok (.istore_n 1, 1) := by decide +kernel
theorem dX6_dryEver_2 : decode cX6_dryEver 2 = .ok (.iconst 0, 1) := by decide +kernel
theorem dX6_dryEver_3 : decode cX6_dryEver 3 = .ok (.istore_n 2, 1) := by decide +kernel
theorem dX6_dryEver_4 : decode cX6_dryEver 4 = .ok (.iload_n 2, 1) := by decide +kernel
theorem dX6_dryEver_5 : decode cX6_dryEver 5 = .ok (.bipush 11, 2) := by decide +kernel
theorem dX6_dryEver_7 : decode cX6_dryEver 7 = .ok (.if_icmp .ge 28, 3) := by decide +kernel
theorem dX6_dryEver_10 : decode cX6_dryEver 10 = .ok (.iload_n 1, 1) := by decide +kernel
theorem dX6_dryEver_11 : decode cX6_dryEver 11 = .ok (.aload_n 0, 1) := by decide +kernel
theorem dX6_dryEver_12 : decode cX6_dryEver 12 = .ok (.iload_n 2, 1) := by decide +kernel
theorem dX6_dryEver_13 : decode cX6_dryEver 13 = .ok (.iconst 5, 1) := by decide +kernel
theorem dX6_dryEver_14 : decode cX6_dryEver 14 = .ok (.invokevirtual 64, 3) := by decide +kernel
theorem dX6_dryEver_17 : decode cX6_dryEver 17 = .ok (.ifCond .le 9, 3) := by decide +kernel
theorem dX6_dryEver_20 : decode cX6_dryEver 20 = .ok (.iconst 1, 1) := by decide +kernel
theorem dX6_dryEver_21 : decode cX6_dryEver 21 = .ok (.iload_n 2, 1) := by decide +kernel
theorem dX6_dryEver_22 : decode cX6_dryEver 22 = .ok (.ishl, 1) := by decide +kernel
theorem dX6_dryEver_23 : decode cX6_dryEver 23 = .ok (.goto 4, 3) := by decide +kernel
theorem dX6_dryEver_26 : decode cX6_dryEver 26 = .ok (.iconst 0, 1) := by decide +kernel
theorem dX6_dryEver_27 : decode cX6_dryEver 27 = .ok (.ior, 1) := by decide +kernel
theorem dX6_dryEver_28 : decode cX6_dryEver 28 = .ok (.istore_n 1, 1) := by decide +kernel
theorem dX6_dryEver_29 : decode cX6_dryEver 29 = .ok (.iinc 2 1, 3) := by decide +kernel
theorem dX6_dryEver_32 : decode cX6_dryEver 32 = .ok (.goto (-28), 3) := by decide +kernel
theorem dX6_dryEver_35 : decode cX6_dryEver 35 = .ok (.iload_n 1, 1) := by decide +kernel
theorem dX6_dryEver_36 : decode cX6_dryEver 36 = .ok (.ireturn, 1) := by decide +kernel
theorem dX6_now_0 : decode cX6_now 0 = .ok (.iload_n 1, 1) := by decide +kernel
theorem dX6_now_1 : decode cX6_now 1 = .ok (.tableswitch 86 0 6 #[43, 50, 55, 62, 69, 74, 79], 43) := by decide +kernel
theorem dX6_now_44 : decode cX6_now 44 = .ok (.aload_n 0, 1) := by decide +kernel
theorem dX6_now_45 : decode cX6_now 45 = .ok (.getfield 9, 3) := by decide +kernel
theorem dX6_now_48 : decode cX6_now 48 = .ok (.iconst 0, 1) := by decide +kernel
theorem dX6_now_49 : decode cX6_now 49 = .ok (.iaload, 1) := by decide +kernel
theorem dX6_now_50 : decode cX6_now 50 = .ok (.ireturn, 1) := by decide +kernel
theorem dX6_now_51 : decode cX6_now 51 = .ok (.aload_n 0, 1) := by decide +kernel
theorem dX6_now_52 : decode cX6_now 52 = .ok (.invokevirtual 147, 3) := by decide +kernel
theorem dX6_now_55 : decode cX6_now 55 = .ok (.ireturn, 1) := by decide +kernel
theorem dX6_now_56 : decode cX6_now 56 = .ok (.aload_n 0, 1) := by decide +kernel
theorem dX6_now_57 : decode cX6_now 57 = .ok (.getfield 9, 3) := by decide +kernel
theorem dX6_now_60 : decode cX6_now 60 = .ok (.iconst 3, 1) := by decide +kernel
theorem dX6_now_61 : decode cX6_now 61 = .ok (.iaload, 1) := by decide +kernel
theorem dX6_now_62 : decode cX6_now 62 = .ok (.ireturn, 1) := by decide +kernel
theorem dX6_now_63 : decode cX6_now 63 = .ok (.aload_n 0, 1) := by decide +kernel
theorem dX6_now_64 : decode cX6_now 64 = .ok (.getfield 9, 3) := by decide +kernel
theorem dX6_now_67 : decode cX6_now 67 = .ok (.iconst 4, 1) := by decide +kernel
theorem dX6_now_68 : decode cX6_now 68 = .ok (.iaload, 1) := by decide +kernel
theorem dX6_now_69 : decode cX6_now 69 = .ok (.ireturn, 1) := by decide +kernel
theorem dX6_now_70 : decode cX6_now 70 = .ok (.aload_n 0, 1) := by decide +kernel
theorem dX6_now_71 : decode cX6_now 71 = .ok (.invokevirtual 150, 3) := by decide +kernel
theorem dX6_now_74 : decode cX6_now 74 = .ok (.ireturn, 1) := by decide +kernel
theorem dX6_now_75 : decode cX6_now 75 = .ok (.aload_n 0, 1) := by decide +kernel
theorem dX6_now_76 : decode cX6_now 76 = .ok (.invokevirtual 115, 3) := by decide +kernel
theorem dX6_now_79 : decode cX6_now 79 = .ok (.ireturn, 1) := by decide +kernel
theorem dX6_now_80 : decode cX6_now 80 = .ok (.aload_n 0, 1) := by decide +kernel
theorem dX6_now_81 : decode cX6_now 81 = .ok (.getfield 9, 3) := by decide +kernel
theorem dX6_now_84 : decode cX6_now 84 = .ok (.iconst 2, 1) := by decide +kernel
theorem dX6_now_85 : decode cX6_now 85 = .ok (.iaload, 1) := by decide +kernel
theorem dX6_now_86 : decode cX6_now 86 = .ok (.ireturn, 1) := by decide +kernel
theorem dX6_now_87 : decode cX6_now 87 = .ok (.aload_n 0, 1) := by decide +kernel
theorem dX6_now_88 : decode cX6_now 88 = .ok (.iconst 0, 1) := by decide +kernel
theorem dX6_now_89 : decode cX6_now 89 = .ok (.invokevirtual 96, 3) := by decide +kernel
theorem dX6_now_92 : decode cX6_now 92 = .ok (.ireturn, 1) := by decide +kernel
theorem dX6_isAhead_0 : decode cX6_isAhead 0 = .ok (.iload_n 0, 1) := by decide +kernel
theorem dX6_isAhead_1 : decode cX6_isAhead 1 = .ok (.i2l, 1) := by decide +kernel
theorem dX6_isAhead_2 : decode cX6_isAhead 2 = .ok (.lconst 0, 1) := by decide +kernel
theorem dX6_isAhead_3 : decode cX6_isAhead 3 = .ok (.ldc2_w 153, 3) := by decide +kernel
theorem dX6_isAhead_6 : decode cX6_isAhead 6 = .ok (.invokestatic 54, 3) := by decide +kernel
theorem dX6_isAhead_9 : decode cX6_isAhead 9 = .ok (.ireturn, 1) := by decide +kernel
theorem dX6_isSoon_0 : decode cX6_isSoon 0 = .ok (.iload_n 0, 1) := by decide +kernel
theorem dX6_isSoon_1 : decode cX6_isSoon 1 = .ok (.i2l, 1) := by decide +kernel
theorem dX6_isSoon_2 : decode cX6_isSoon 2 = .ok (.lconst 0, 1) := by decide +kernel
theorem dX6_isSoon_3 : decode cX6_isSoon 3 = .ok (.ldc2_w 155, 3) := by decide +kernel
theorem dX6_isSoon_6 : decode cX6_isSoon 6 = .ok (.invokestatic 54, 3) := by decide +kernel
theorem dX6_isSoon_9 : decode cX6_isSoon 9 = .ok (.ireturn, 1) := by decide +kernel
theorem dX6_ahead_0 : decode cX6_ahead 0 = .ok (.iload_n 1, 1) := by decide +kernel
theorem dX6_ahead_1 : decode cX6_ahead 1 = .ok (.invokestatic 87, 3) := by decide +kernel
theorem dX6_ahead_4 : decode cX6_ahead 4 = .ok (.ifCond .eq 20, 3) := by decide +kernel
theorem dX6_ahead_7 : decode cX6_ahead 7 = .ok (.iload_n 2, 1) := by decide +kernel
theorem dX6_ahead_8 : decode cX6_ahead 8 = .ok (.iconst 1, 1) := by decide +kernel
theorem dX6_ahead_9 : decode cX6_ahead 9 = .ok (.if_icmp .eq 8, 3) := by decide +kernel
theorem dX6_ahead_12 : decode cX6_ahead 12 = .ok (.iload_n 2, 1) := by decide +kernel
theorem dX6_ahead_13 : decode cX6_ahead 13 = .ok (.iconst 5, 1) := by decide +kernel
theorem dX6_ahead_14 : decode cX6_ahead 14 = .ok (.if_icmp .ne 10, 3) := by decide +kernel
theorem dX6_ahead_17 : decode cX6_ahead 17 = .ok (.iload_n 3, 1) := by decide +kernel
theorem dX6_ahead_18 : decode cX6_ahead 18 = .ok (.invokestatic 157, 3) := by decide +kernel
theorem dX6_ahead_21 : decode cX6_ahead 21 = .ok (.ifCond .ne 9, 3) := by decide +kernel
theorem dX6_ahead_24 : decode cX6_ahead 24 = .ok (.aload_n 0, 1) := by decide +kernel
theorem dX6_ahead_25 : decode cX6_ahead 25 = .ok (.iconst 0, 1) := by decide +kernel
theorem dX6_ahead_26 : decode cX6_ahead 26 = .ok (.invokevirtual 96, 3) := by decide +kernel
theorem dX6_ahead_29 : decode cX6_ahead 29 = .ok (.ireturn, 1) := by decide +kernel
theorem dX6_ahead_30 : decode cX6_ahead 30 = .ok (.aload_n 0, 1) := by decide +kernel
theorem dX6_ahead_31 : decode cX6_ahead 31 = .ok (.invokevirtual 160, 3) := by decide +kernel
theorem dX6_ahead_34 : decode cX6_ahead 34 = .ok (.aload_n 0, 1) := by decide +kernel
theorem dX6_ahead_35 : decode cX6_ahead 35 = .ok (.iload_n 3, 1) := by decide +kernel
theorem dX6_ahead_36 : decode cX6_ahead 36 = .ok (.invokevirtual 144, 3) := by decide +kernel
theorem dX6_ahead_39 : decode cX6_ahead 39 = .ok (.aload_n 0, 1) := by decide +kernel
theorem dX6_ahead_40 : decode cX6_ahead 40 = .ok (.iload_n 1, 1) := by decide +kernel
theorem dX6_ahead_41 : decode cX6_ahead 41 = .ok (.iload_n 2, 1) := by decide +kernel
theorem dX6_ahead_42 : decode cX6_ahead 42 = .ok (.invokevirtual 64, 3) := by decide +kernel
theorem dX6_ahead_45 : decode cX6_ahead 45 = .ok (.istore 4, 2) := by decide +kernel
theorem dX6_ahead_47 : decode cX6_ahead 47 = .ok (.aload_n 0, 1) := by decide +kernel
theorem dX6_ahead_48 : decode cX6_ahead 48 = .ok (.invokevirtual 163, 3) := by decide +kernel
theorem dX6_ahead_51 : decode cX6_ahead 51 = .ok (.iload 4, 2) := by decide +kernel
theorem dX6_ahead_53 : decode cX6_ahead 53 = .ok (.ireturn, 1) := by decide +kernel
theorem dX6_alleyIn_0 : decode cX6_alleyIn 0 = .ok (.aload_n 0, 1) := by decide +kernel
theorem dX6_alleyIn_1 : decode cX6_alleyIn 1 = .ok (.iload_n 1, 1) := by decide +kernel
theorem dX6_alleyIn_2 : decode cX6_alleyIn 2 = .ok (.invokevirtual 144, 3) := by decide +kernel
theorem dX6_alleyIn_5 : decode cX6_alleyIn 5 = .ok (.aload_n 0, 1) := by decide +kernel
theorem dX6_alleyIn_6 : decode cX6_alleyIn 6 = .ok (.getfield 9, 3) := by decide +kernel
theorem dX6_alleyIn_9 : decode cX6_alleyIn 9 = .ok (.iconst 3, 1) := by decide +kernel
theorem dX6_alleyIn_10 : decode cX6_alleyIn 10 = .ok (.iaload, 1) := by decide +kernel
theorem dX6_alleyIn_11 : decode cX6_alleyIn 11 = .ok (.istore_n 2, 1) := by decide +kernel
theorem dX6_alleyIn_12 : decode cX6_alleyIn 12 = .ok (.aload_n 0, 1) := by decide +kernel
theorem dX6_alleyIn_13 : decode cX6_alleyIn 13 = .ok (.invokevirtual 163, 3) := by decide +kernel
theorem dX6_alleyIn_16 : decode cX6_alleyIn 16 = .ok (.iload_n 2, 1) := by decide +kernel
theorem dX6_alleyIn_17 : decode cX6_alleyIn 17 = .ok (.ireturn, 1) := by decide +kernel
theorem dX6_alley_0 : decode cX6_alley 0 = .ok (.iload_n 1, 1) := by decide +kernel
theorem dX6_alley_1 : decode cX6_alley 1 = .ok (.invokestatic 157, 3) := by decide +kernel
theorem dX6_alley_4 : decode cX6_alley 4 = .ok (.ifCond .ne 9, 3) := by decide +kernel
theorem dX6_alley_7 : decode cX6_alley 7 = .ok (.aload_n 0, 1) := by decide +kernel
theorem dX6_alley_8 : decode cX6_alley 8 = .ok (.iconst 0, 1) := by decide +kernel
theorem dX6_alley_9 : decode cX6_alley 9 = .ok (.invokevirtual 96, 3) := by decide +kernel
theorem dX6_alley_12 : decode cX6_alley 12 = .ok (.ireturn, 1) := by decide +kernel
theorem dX6_alley_13 : decode cX6_alley 13 = .ok (.aload_n 0, 1) := by decide +kernel
theorem dX6_alley_14 : decode cX6_alley 14 = .ok (.invokevirtual 160, 3) := by decide +kernel
theorem dX6_alley_17 : decode cX6_alley 17 = .ok (.aload_n 0, 1) := by decide +kernel
theorem dX6_alley_18 : decode cX6_alley 18 = .ok (.iload_n 1, 1) := by decide +kernel
theorem dX6_alley_19 : decode cX6_alley 19 = .ok (.invokevirtual 166, 3) := by decide +kernel
theorem dX6_alley_22 : decode cX6_alley 22 = .ok (.ireturn, 1) := by decide +kernel
theorem dX6_dry_0 : decode cX6_dry 0 = .ok (.iload_n 1, 1) := by decide +kernel
theorem dX6_dry_1 : decode cX6_dry 1 = .ok (.invokestatic 157, 3) := by decide +kernel
theorem dX6_dry_4 : decode cX6_dry 4 = .ok (.ifCond .ne 9, 3) := by decide +kernel
theorem dX6_dry_7 : decode cX6_dry 7 = .ok (.aload_n 0, 1) := by decide +kernel
theorem dX6_dry_8 : decode cX6_dry 8 = .ok (.iconst 0, 1) := by decide +kernel
theorem dX6_dry_9 : decode cX6_dry 9 = .ok (.invokevirtual 96, 3) := by decide +kernel
theorem dX6_dry_12 : decode cX6_dry 12 = .ok (.ireturn, 1) := by decide +kernel
theorem dX6_dry_13 : decode cX6_dry 13 = .ok (.aload_n 0, 1) := by decide +kernel
theorem dX6_dry_14 : decode cX6_dry 14 = .ok (.invokevirtual 160, 3) := by decide +kernel
theorem dX6_dry_17 : decode cX6_dry 17 = .ok (.aload_n 0, 1) := by decide +kernel
theorem dX6_dry_18 : decode cX6_dry 18 = .ok (.iload_n 1, 1) := by decide +kernel
theorem dX6_dry_19 : decode cX6_dry 19 = .ok (.invokevirtual 169, 3) := by decide +kernel
theorem dX6_dry_22 : decode cX6_dry 22 = .ok (.istore_n 2, 1) := by decide +kernel
theorem dX6_dry_23 : decode cX6_dry 23 = .ok (.aload_n 0, 1) := by decide +kernel
theorem dX6_dry_24 : decode cX6_dry 24 = .ok (.invokevirtual 163, 3) := by decide +kernel
theorem dX6_dry_27 : decode cX6_dry 27 = .ok (.iload_n 2, 1) := by decide +kernel
theorem dX6_dry_28 : decode cX6_dry 28 = .ok (.ireturn, 1) := by decide +kernel
theorem dX6_when_0 : decode cX6_when 0 = .ok (.iload_n 1, 1) := by decide +kernel
theorem dX6_when_1 : decode cX6_when 1 = .ok (.invokestatic 87, 3) := by decide +kernel
theorem dX6_when_4 : decode cX6_when 4 = .ok (.ifCond .eq 15, 3) := by decide +kernel
theorem dX6_when_7 : decode cX6_when 7 = .ok (.iload_n 2, 1) := by decide +kernel
theorem dX6_when_8 : decode cX6_when 8 = .ok (.i2l, 1) := by decide +kernel
theorem dX6_when_9 : decode cX6_when 9 = .ok (.lconst 0, 1) := by decide +kernel
theorem dX6_when_10 : decode cX6_when 10 = .ok (.ldc2_w 81, 3) := by decide +kernel
theorem dX6_when_13 : decode cX6_when 13 = .ok (.invokestatic 54, 3) := by decide +kernel
theorem dX6_when_16 : decode cX6_when 16 = .ok (.ifCond .ne 9, 3) := by decide +kernel
theorem dX6_when_19 : decode cX6_when 19 = .ok (.aload_n 0, 1) := by decide +kernel
theorem dX6_when_20 : decode cX6_when 20 = .ok (.iconst 0, 1) := by decide +kernel
theorem dX6_when_21 : decode cX6_when 21 = .ok (.invokevirtual 96, 3) := by decide +kernel
theorem dX6_when_24 : decode cX6_when 24 = .ok (.ireturn, 1) := by decide +kernel
theorem dX6_when_25 : decode cX6_when 25 = .ok (.aload_n 0, 1) := by decide +kernel
theorem dX6_when_26 : decode cX6_when 26 = .ok (.invokevirtual 160, 3) := by decide +kernel
theorem dX6_when_29 : decode cX6_when 29 = .ok (.iconst 0, 1) := by decide +kernel
theorem dX6_when_30 : decode cX6_when 30 = .ok (.istore_n 3, 1) := by decide +kernel
theorem dX6_when_31 : decode cX6_when 31 = .ok (.iload_n 3, 1) := by decide +kernel
theorem dX6_when_32 : decode cX6_when 32 = .ok (.bipush 100, 2) := by decide +kernel
theorem dX6_when_34 : decode cX6_when 34 = .ok (.if_icmp .gt 23, 3) := by decide +kernel
theorem dX6_when_37 : decode cX6_when 37 = .ok (.aload_n 0, 1) := by decide +kernel
theorem dX6_when_38 : decode cX6_when 38 = .ok (.iload_n 1, 1) := by decide +kernel
theorem dX6_when_39 : decode cX6_when 39 = .ok (.iconst 1, 1) := by decide +kernel
theorem dX6_when_40 : decode cX6_when 40 = .ok (.invokevirtual 64, 3) := by decide +kernel
theorem dX6_when_43 : decode cX6_when 43 = .ok (.iload_n 2, 1) := by decide +kernel
theorem dX6_when_44 : decode cX6_when 44 = .ok (.if_icmp .ge 13, 3) := by decide +kernel
theorem dX6_when_47 : decode cX6_when 47 = .ok (.aload_n 0, 1) := by decide +kernel
theorem dX6_when_48 : decode cX6_when 48 = .ok (.invokevirtual 138, 3) := by decide +kernel
theorem dX6_when_51 : decode cX6_when 51 = .ok (.iinc 3 1, 3) := by decide +kernel
theorem dX6_when_54 : decode cX6_when 54 = .ok (.goto (-23), 3) := by decide +kernel
theorem dX6_when_57 : decode cX6_when 57 = .ok (.aload_n 0, 1) := by decide +kernel
theorem dX6_when_58 : decode cX6_when 58 = .ok (.invokevirtual 163, 3) := by decide +kernel
theorem dX6_when_61 : decode cX6_when 61 = .ok (.iload_n 3, 1) := by decide +kernel
theorem dX6_when_62 : decode cX6_when 62 = .ok (.bipush 100, 2) := by decide +kernel
theorem dX6_when_64 : decode cX6_when 64 = .ok (.if_icmp .gt 7, 3) := by decide +kernel
theorem dX6_when_67 : decode cX6_when 67 = .ok (.iload_n 3, 1) := by decide +kernel
theorem dX6_when_68 : decode cX6_when 68 = .ok (.goto 8, 3) := by decide +kernel
theorem dX6_when_71 : decode cX6_when 71 = .ok (.aload_n 0, 1) := by decide +kernel
theorem dX6_when_72 : decode cX6_when 72 = .ok (.iconst 3, 1) := by decide +kernel
theorem dX6_when_73 : decode cX6_when 73 = .ok (.invokevirtual 96, 3) := by decide +kernel
theorem dX6_when_76 : decode cX6_when 76 = .ok (.ireturn, 1) := by decide +kernel
theorem dX6_leavesAll_0 : decode cX6_leavesAll 0 = .ok (.iconst 0, 1) := by decide +kernel
theorem dX6_leavesAll_1 : decode cX6_leavesAll 1 = .ok (.istore_n 1, 1) := by decide +kernel
theorem dX6_leavesAll_2 : decode cX6_leavesAll 2 = .ok (.iload_n 1, 1) := by decide +kernel
theorem dX6_leavesAll_3 : decode cX6_leavesAll 3 = .ok (.bipush 11, 2) := by decide +kernel
theorem dX6_leavesAll_5 : decode cX6_leavesAll 5 = .ok (.if_icmp .ge 21, 3) := by decide +kernel
theorem dX6_leavesAll_8 : decode cX6_leavesAll 8 = .ok (.aload_n 0, 1) := by decide +kernel
theorem dX6_leavesAll_9 : decode cX6_leavesAll 9 = .ok (.getfield 25, 3) := by decide +kernel
theorem dX6_leavesAll_12 : decode cX6_leavesAll 12 = .ok (.iload_n 1, 1) := by decide +kernel
theorem dX6_leavesAll_13 : decode cX6_leavesAll 13 = .ok (.aload_n 0, 1) := by decide +kernel
theorem dX6_leavesAll_14 : decode cX6_leavesAll 14 = .ok (.iload_n 1, 1) := by decide +kernel
theorem dX6_leavesAll_15 : decode cX6_leavesAll 15 = .ok (.iconst 1, 1) := by decide +kernel
theorem dX6_leavesAll_16 : decode cX6_leavesAll 16 = .ok (.invokevirtual 64, 3) := by decide +kernel
theorem dX6_leavesAll_19 : decode cX6_leavesAll 19 = .ok (.iastore, 1) := by decide +kernel
theorem dX6_leavesAll_20 : decode cX6_leavesAll 20 = .ok (.iinc 1 1, 3) := by decide +kernel
theorem dX6_leavesAll_23 : decode cX6_leavesAll 23 = .ok (.goto (-21), 3) := by decide +kernel
theorem dX6_leavesAll_26 : decode cX6_leavesAll 26 = .ok (.aload_n 0, 1) := by decide +kernel
theorem dX6_leavesAll_27 : decode cX6_leavesAll 27 = .ok (.invokevirtual 138, 3) := by decide +kernel
theorem dX6_leavesAll_30 : decode cX6_leavesAll 30 = .ok (.iconst 1, 1) := by decide +kernel
theorem dX6_leavesAll_31 : decode cX6_leavesAll 31 = .ok (.istore_n 1, 1) := by decide +kernel
theorem dX6_leavesAll_32 : decode cX6_leavesAll 32 = .ok (.iconst 0, 1) := by decide +kernel
theorem dX6_leavesAll_33 : decode cX6_leavesAll 33 = .ok (.istore_n 2, 1) := by decide +kernel
theorem dX6_leavesAll_34 : decode cX6_leavesAll 34 = .ok (.iload_n 2, 1) := by decide +kernel
theorem dX6_leavesAll_35 : decode cX6_leavesAll 35 = .ok (.bipush 11, 2) := by decide +kernel
theorem dX6_leavesAll_37 : decode cX6_leavesAll 37 = .ok (.if_icmp .ge 34, 3) := by decide +kernel
theorem dX6_leavesAll_40 : decode cX6_leavesAll 40 = .ok (.iload_n 1, 1) := by decide +kernel
theorem dX6_leavesAll_41 : decode cX6_leavesAll 41 = .ok (.ifCond .eq 22, 3) := by decide +kernel
theorem dX6_leavesAll_44 : decode cX6_leavesAll 44 = .ok (.aload_n 0, 1) := by decide +kernel
theorem dX6_leavesAll_45 : decode cX6_leavesAll 45 = .ok (.getfield 25, 3) := by decide +kernel
theorem dX6_leavesAll_48 : decode cX6_leavesAll 48 = .ok (.iload_n 2, 1) := by decide +kernel
theorem dX6_leavesAll_49 : decode cX6_leavesAll 49 = .ok (.iaload, 1) := by decide +kernel
theorem dX6_leavesAll_50 : decode cX6_leavesAll 50 = .ok (.aload_n 0, 1) := by decide +kernel
theorem dX6_leavesAll_51 : decode cX6_leavesAll 51 = .ok (.iload_n 2, 1) := by decide +kernel
theorem dX6_leavesAll_52 : decode cX6_leavesAll 52 = .ok (.iconst 1, 1) := by decide +kernel
theorem dX6_leavesAll_53 : decode cX6_leavesAll 53 = .ok (.invokevirtual 64, 3) := by decide +kernel
theorem dX6_leavesAll_56 : decode cX6_leavesAll 56 = .ok (.if_icmp .ne 7, 3) := by decide +kernel
theorem dX6_leavesAll_59 : decode cX6_leavesAll 59 = .ok (.iconst 1, 1) := by decide +kernel
theorem dX6_leavesAll_60 : decode cX6_leavesAll 60 = .ok (.goto 4, 3) := by decide +kernel
theorem dX6_leavesAll_63 : decode cX6_leavesAll 63 = .ok (.iconst 0, 1) := by decide +kernel
theorem dX6_leavesAll_64 : decode cX6_leavesAll 64 = .ok (.istore_n 1, 1) := by decide +kernel
theorem dX6_leavesAll_65 : decode cX6_leavesAll 65 = .ok (.iinc 2 1, 3) := by decide +kernel
theorem dX6_leavesAll_68 : decode cX6_leavesAll 68 = .ok (.goto (-34), 3) := by decide +kernel
theorem dX6_leavesAll_71 : decode cX6_leavesAll 71 = .ok (.iload_n 1, 1) := by decide +kernel
theorem dX6_leavesAll_72 : decode cX6_leavesAll 72 = .ok (.ireturn, 1) := by decide +kernel
theorem dX6_settles_0 : decode cX6_settles 0 = .ok (.aload_n 0, 1) := by decide +kernel
theorem dX6_settles_1 : decode cX6_settles 1 = .ok (.invokevirtual 160, 3) := by decide +kernel
theorem dX6_settles_4 : decode cX6_settles 4 = .ok (.iconst 0, 1) := by decide +kernel
theorem dX6_settles_5 : decode cX6_settles 5 = .ok (.istore_n 1, 1) := by decide +kernel
theorem dX6_settles_6 : decode cX6_settles 6 = .ok (.iload_n 1, 1) := by decide +kernel
theorem dX6_settles_7 : decode cX6_settles 7 = .ok (.bipush 100, 2) := by decide +kernel
theorem dX6_settles_9 : decode cX6_settles 9 = .ok (.if_icmp .gt 16, 3) := by decide +kernel
theorem dX6_settles_12 : decode cX6_settles 12 = .ok (.aload_n 0, 1) := by decide +kernel
theorem dX6_settles_13 : decode cX6_settles 13 = .ok (.invokevirtual 172, 3) := by decide +kernel
theorem dX6_settles_16 : decode cX6_settles 16 = .ok (.ifCond .ne 9, 3) := by decide +kernel
theorem dX6_settles_19 : decode cX6_settles 19 = .ok (.iinc 1 1, 3) := by decide +kernel
theorem dX6_settles_22 : decode cX6_settles 22 = .ok (.goto (-16), 3) := by decide +kernel
theorem dX6_settles_25 : decode cX6_settles 25 = .ok (.aload_n 0, 1) := by decide +kernel
theorem dX6_settles_26 : decode cX6_settles 26 = .ok (.invokevirtual 163, 3) := by decide +kernel
theorem dX6_settles_29 : decode cX6_settles 29 = .ok (.iload_n 1, 1) := by decide +kernel
theorem dX6_settles_30 : decode cX6_settles 30 = .ok (.bipush 100, 2) := by decide +kernel
theorem dX6_settles_32 : decode cX6_settles 32 = .ok (.if_icmp .gt 7, 3) := by decide +kernel
theorem dX6_settles_35 : decode cX6_settles 35 = .ok (.iload_n 1, 1) := by decide +kernel
theorem dX6_settles_36 : decode cX6_settles 36 = .ok (.goto 8, 3) := by decide +kernel
theorem dX6_settles_39 : decode cX6_settles 39 = .ok (.aload_n 0, 1) := by decide +kernel
theorem dX6_settles_40 : decode cX6_settles 40 = .ok (.iconst 3, 1) := by decide +kernel
theorem dX6_settles_41 : decode cX6_settles 41 = .ok (.invokevirtual 96, 3) := by decide +kernel
theorem dX6_settles_44 : decode cX6_settles 44 = .ok (.ireturn, 1) := by decide +kernel
theorem dX6_below_0 : decode cX6_below 0 = .ok (.iload_n 1, 1) := by decide +kernel
theorem dX6_below_1 : decode cX6_below 1 = .ok (.invokestatic 87, 3) := by decide +kernel
theorem dX6_below_4 : decode cX6_below 4 = .ok (.ifCond .ne 9, 3) := by decide +kernel
theorem dX6_below_7 : decode cX6_below 7 = .ok (.aload_n 0, 1) := by decide +kernel
theorem dX6_below_8 : decode cX6_below 8 = .ok (.iconst 0, 1) := by decide +kernel
theorem dX6_below_9 : decode cX6_below 9 = .ok (.invokevirtual 96, 3) := by decide +kernel
theorem dX6_below_12 : decode cX6_below 12 = .ok (.ireturn, 1) := by decide +kernel
theorem dX6_below_13 : decode cX6_below 13 = .ok (.iconst 0, 1) := by decide +kernel
theorem dX6_below_14 : decode cX6_below 14 = .ok (.istore_n 2, 1) := by decide +kernel
theorem dX6_below_15 : decode cX6_below 15 = .ok (.iload_n 1, 1) := by decide +kernel
theorem dX6_below_16 : decode cX6_below 16 = .ok (.istore_n 3, 1) := by decide +kernel
theorem dX6_below_17 : decode cX6_below 17 = .ok (.iload_n 3, 1) := by decide +kernel
theorem dX6_below_18 : decode cX6_below 18 = .ok (.ifCond .lt 18, 3) := by decide +kernel
theorem dX6_below_21 : decode cX6_below 21 = .ok (.iload_n 2, 1) := by decide +kernel
theorem dX6_below_22 : decode cX6_below 22 = .ok (.iconst 1, 1) := by decide +kernel
theorem dX6_below_23 : decode cX6_below 23 = .ok (.iload_n 3, 1) := by decide +kernel
theorem dX6_below_24 : decode cX6_below 24 = .ok (.ishl, 1) := by decide +kernel
theorem dX6_below_25 : decode cX6_below 25 = .ok (.ior, 1) := by decide +kernel
theorem dX6_below_26 : decode cX6_below 26 = .ok (.istore_n 2, 1) := by decide +kernel
theorem dX6_below_27 : decode cX6_below 27 = .ok (.aload_n 0, 1) := by decide +kernel
theorem dX6_below_28 : decode cX6_below 28 = .ok (.iload_n 3, 1) := by decide +kernel
theorem dX6_below_29 : decode cX6_below 29 = .ok (.invokevirtual 110, 3) := by decide +kernel
theorem dX6_below_32 : decode cX6_below 32 = .ok (.istore_n 3, 1) := by decide +kernel
theorem dX6_below_33 : decode cX6_below 33 = .ok (.goto (-16), 3) := by decide +kernel
theorem dX6_below_36 : decode cX6_below 36 = .ok (.iload_n 2, 1) := by decide +kernel
theorem dX6_below_37 : decode cX6_below 37 = .ok (.ireturn, 1) := by decide +kernel
theorem dX6_isWet_0 : decode cX6_isWet 0 = .ok (.aload_n 0, 1) := by decide +kernel
theorem dX6_isWet_1 : decode cX6_isWet 1 = .ok (.iload_n 2, 1) := by decide +kernel
theorem dX6_isWet_2 : decode cX6_isWet 2 = .ok (.invokevirtual 169, 3) := by decide +kernel
theorem dX6_isWet_5 : decode cX6_isWet 5 = .ok (.iload_n 1, 1) := by decide +kernel
theorem dX6_isWet_6 : decode cX6_isWet 6 = .ok (.ishr, 1) := by decide +kernel
theorem dX6_isWet_7 : decode cX6_isWet 7 = .ok (.iconst 1, 1) := by decide +kernel
theorem dX6_isWet_8 : decode cX6_isWet 8 = .ok (.iand, 1) := by decide +kernel
theorem dX6_isWet_9 : decode cX6_isWet 9 = .ok (.ifCond .ne 7, 3) := by decide +kernel
theorem dX6_isWet_12 : decode cX6_isWet 12 = .ok (.iconst 1, 1) := by decide +kernel
theorem dX6_isWet_13 : decode cX6_isWet 13 = .ok (.goto 4, 3) := by decide +kernel
theorem dX6_isWet_16 : decode cX6_isWet 16 = .ok (.iconst 0, 1) := by decide +kernel
theorem dX6_isWet_17 : decode cX6_isWet 17 = .ok (.istore_n 3, 1) := by decide +kernel
theorem dX6_isWet_18 : decode cX6_isWet 18 = .ok (.aload_n 0, 1) := by decide +kernel
theorem dX6_isWet_19 : decode cX6_isWet 19 = .ok (.invokevirtual 163, 3) := by decide +kernel
theorem dX6_isWet_22 : decode cX6_isWet 22 = .ok (.iload_n 3, 1) := by decide +kernel
theorem dX6_isWet_23 : decode cX6_isWet 23 = .ok (.ireturn, 1) := by decide +kernel
theorem dX6_rainFor_0 : decode cX6_rainFor 0 = .ok (.iload_n 1, 1) := by decide +kernel
theorem dX6_rainFor_1 : decode cX6_rainFor 1 = .ok (.invokestatic 87, 3) := by decide +kernel
theorem dX6_rainFor_4 : decode cX6_rainFor 4 = .ok (.ifCond .eq 10, 3) := by decide +kernel
theorem dX6_rainFor_7 : decode cX6_rainFor 7 = .ok (.iload_n 2, 1) := by decide +kernel
theorem dX6_rainFor_8 : decode cX6_rainFor 8 = .ok (.invokestatic 176, 3) := by decide +kernel
theorem dX6_rainFor_11 : decode cX6_rainFor 11 = .ok (.ifCond .ne 9, 3) := by decide +kernel
theorem dX6_rainFor_14 : decode cX6_rainFor 14 = .ok (.aload_n 0, 1) := by decide +kernel
theorem dX6_rainFor_15 : decode cX6_rainFor 15 = .ok (.iconst 0, 1) := by decide +kernel
theorem dX6_rainFor_16 : decode cX6_rainFor 16 = .ok (.invokevirtual 96, 3) := by decide +kernel
theorem dX6_rainFor_19 : decode cX6_rainFor 19 = .ok (.ireturn, 1) := by decide +kernel
theorem dX6_rainFor_20 : decode cX6_rainFor 20 = .ok (.iconst 0, 1) := by decide +kernel
theorem dX6_rainFor_21 : decode cX6_rainFor 21 = .ok (.istore_n 3, 1) := by decide +kernel
theorem dX6_rainFor_22 : decode cX6_rainFor 22 = .ok (.iload_n 3, 1) := by decide +kernel
theorem dX6_rainFor_23 : decode cX6_rainFor 23 = .ok (.sipush 999, 3) := by decide +kernel
theorem dX6_rainFor_26 : decode cX6_rainFor 26 = .ok (.if_icmp .gt 31, 3) := by decide +kernel
theorem dX6_rainFor_29 : decode cX6_rainFor 29 = .ok (.aload_n 0, 1) := by decide +kernel
theorem dX6_rainFor_30 : decode cX6_rainFor 30 = .ok (.invokevirtual 160, 3) := by decide +kernel
theorem dX6_rainFor_33 : decode cX6_rainFor 33 = .ok (.aload_n 0, 1) := by decide +kernel
theorem dX6_rainFor_34 : decode cX6_rainFor 34 = .ok (.getfield 9, 3) := by decide +kernel
theorem dX6_rainFor_37 : decode cX6_rainFor 37 = .ok (.iconst 2, 1) := by decide +kernel
theorem dX6_rainFor_38 : decode cX6_rainFor 38 = .ok (.iload_n 3, 1) := by decide +kernel
theorem dX6_rainFor_39 : decode cX6_rainFor 39 = .ok (.iastore, 1) := by decide +kernel
theorem dX6_rainFor_40 : decode cX6_rainFor 40 = .ok (.aload_n 0, 1) := by decide +kernel
theorem dX6_rainFor_41 : decode cX6_rainFor 41 = .ok (.iload_n 1, 1) := by decide +kernel
theorem dX6_rainFor_42 : decode cX6_rainFor 42 = .ok (.iload_n 2, 1) := by decide +kernel
theorem dX6_rainFor_43 : decode cX6_rainFor 43 = .ok (.invokevirtual 179, 3) := by decide +kernel
theorem dX6_rainFor_46 : decode cX6_rainFor 46 = .ok (.ifCond .eq 5, 3) := by decide +kernel
theorem dX6_rainFor_49 : decode cX6_rainFor 49 = .ok (.iload_n 3, 1) := by decide +kernel
theorem dX6_rainFor_50 : decode cX6_rainFor 50 = .ok (.ireturn, 1) := by decide +kernel
theorem dX6_rainFor_51 : decode cX6_rainFor 51 = .ok (.iinc 3 1, 3) := by decide +kernel
theorem dX6_rainFor_54 : decode cX6_rainFor 54 = .ok (.goto (-32), 3) := by decide +kernel
theorem dX6_rainFor_57 : decode cX6_rainFor 57 = .ok (.aload_n 0, 1) := by decide +kernel
theorem dX6_rainFor_58 : decode cX6_rainFor 58 = .ok (.iconst 3, 1) := by decide +kernel
theorem dX6_rainFor_59 : decode cX6_rainFor 59 = .ok (.invokevirtual 96, 3) := by decide +kernel
theorem dX6_rainFor_62 : decode cX6_rainFor 62 = .ok (.ireturn, 1) := by decide +kernel
theorem dX6_isWetBy_0 : decode cX6_isWetBy 0 = .ok (.aload_n 0, 1) := by decide +kernel
theorem dX6_isWetBy_1 : decode cX6_isWetBy 1 = .ok (.invokevirtual 160, 3) := by decide +kernel
theorem dX6_isWetBy_4 : decode cX6_isWetBy 4 = .ok (.aload_n 0, 1) := by decide +kernel
theorem dX6_isWetBy_5 : decode cX6_isWetBy 5 = .ok (.iload_n 1, 1) := by decide +kernel
theorem dX6_isWetBy_6 : decode cX6_isWetBy 6 = .ok (.iload_n 3, 1) := by decide +kernel
theorem dX6_isWetBy_7 : decode cX6_isWetBy 7 = .ok (.iload 4, 2) := by decide +kernel
theorem dX6_isWetBy_9 : decode cX6_isWetBy 9 = .ok (.invokevirtual 43, 3) := by decide +kernel
theorem dX6_isWetBy_12 : decode cX6_isWetBy 12 = .ok (.aload_n 0, 1) := by decide +kernel
theorem dX6_isWetBy_13 : decode cX6_isWetBy 13 = .ok (.iload_n 1, 1) := by decide +kernel
theorem dX6_isWetBy_14 : decode cX6_isWetBy 14 = .ok (.iload_n 2, 1) := by decide +kernel
theorem dX6_isWetBy_15 : decode cX6_isWetBy 15 = .ok (.invokevirtual 179, 3) := by decide +kernel
theorem dX6_isWetBy_18 : decode cX6_isWetBy 18 = .ok (.ireturn, 1) := by decide +kernel
theorem dX6_holdsFor_0 : decode cX6_holdsFor 0 = .ok (.iload_n 1, 1) := by decide +kernel
theorem dX6_holdsFor_1 : decode cX6_holdsFor 1 = .ok (.invokestatic 87, 3) := by decide +kernel
theorem dX6_holdsFor_4 : decode cX6_holdsFor 4 = .ok (.ifCond .eq 10, 3) := by decide +kernel
theorem dX6_holdsFor_7 : decode cX6_holdsFor 7 = .ok (.iload_n 2, 1) := by decide +kernel
theorem dX6_holdsFor_8 : decode cX6_holdsFor 8 = .ok (.invokestatic 176, 3) := by decide +kernel
theorem dX6_holdsFor_11 : decode cX6_holdsFor 11 = .ok (.ifCond .ne 9, 3) := by decide +kernel
theorem dX6_holdsFor_14 : decode cX6_holdsFor 14 = .ok (.aload_n 0, 1) := by decide +kernel
theorem dX6_holdsFor_15 : decode cX6_holdsFor 15 = .ok (.iconst 0, 1) := by decide +kernel
theorem dX6_holdsFor_16 : decode cX6_holdsFor 16 = .ok (.invokevirtual 96, 3) := by decide +kernel
theorem dX6_holdsFor_19 : decode cX6_holdsFor 19 = .ok (.ireturn, 1) := by decide +kernel
theorem dX6_holdsFor_20 : decode cX6_holdsFor 20 = .ok (.iconst 0, 1) := by decide +kernel
theorem dX6_holdsFor_21 : decode cX6_holdsFor 21 = .ok (.istore_n 3, 1) := by decide +kernel
theorem dX6_holdsFor_22 : decode cX6_holdsFor 22 = .ok (.iload_n 3, 1) := by decide +kernel
theorem dX6_holdsFor_23 : decode cX6_holdsFor 23 = .ok (.sipush 200, 3) := by decide +kernel
theorem dX6_holdsFor_26 : decode cX6_holdsFor 26 = .ok (.if_icmp .gt 20, 3) := by decide +kernel
theorem dX6_holdsFor_29 : decode cX6_holdsFor 29 = .ok (.aload_n 0, 1) := by decide +kernel
theorem dX6_holdsFor_30 : decode cX6_holdsFor 30 = .ok (.iload_n 1, 1) := by decide +kernel
theorem dX6_holdsFor_31 : decode cX6_holdsFor 31 = .ok (.iload_n 2, 1) := by decide +kernel
theorem dX6_holdsFor_32 : decode cX6_holdsFor 32 = .ok (.iconst 3, 1) := by decide +kernel
theorem dX6_holdsFor_33 : decode cX6_holdsFor 33 = .ok (.iload_n 3, 1) := by decide +kernel
theorem dX6_holdsFor_34 : decode cX6_holdsFor 34 = .ok (.invokevirtual 182, 3) := by decide +kernel
theorem dX6_holdsFor_37 : decode cX6_holdsFor 37 = .ok (.ifCond .ne 9, 3) := by decide +kernel
theorem dX6_holdsFor_40 : decode cX6_holdsFor 40 = .ok (.iinc 3 1, 3) := by decide +kernel
theorem dX6_holdsFor_43 : decode cX6_holdsFor 43 = .ok (.goto (-21), 3) := by decide +kernel
theorem dX6_holdsFor_46 : decode cX6_holdsFor 46 = .ok (.iload_n 3, 1) := by decide +kernel
theorem dX6_holdsFor_47 : decode cX6_holdsFor 47 = .ok (.sipush 200, 3) := by decide +kernel
theorem dX6_holdsFor_50 : decode cX6_holdsFor 50 = .ok (.if_icmp .gt 7, 3) := by decide +kernel
theorem dX6_holdsFor_53 : decode cX6_holdsFor 53 = .ok (.iload_n 3, 1) := by decide +kernel
theorem dX6_holdsFor_54 : decode cX6_holdsFor 54 = .ok (.goto 8, 3) := by decide +kernel
theorem dX6_holdsFor_57 : decode cX6_holdsFor 57 = .ok (.aload_n 0, 1) := by decide +kernel
theorem dX6_holdsFor_58 : decode cX6_holdsFor 58 = .ok (.iconst 3, 1) := by decide +kernel
theorem dX6_holdsFor_59 : decode cX6_holdsFor 59 = .ok (.invokevirtual 96, 3) := by decide +kernel
theorem dX6_holdsFor_62 : decode cX6_holdsFor 62 = .ok (.ireturn, 1) := by decide +kernel
theorem dX6_needFor_0 : decode cX6_needFor 0 = .ok (.iload_n 1, 1) := by decide +kernel
theorem dX6_needFor_1 : decode cX6_needFor 1 = .ok (.invokestatic 87, 3) := by decide +kernel
theorem dX6_needFor_4 : decode cX6_needFor 4 = .ok (.ifCond .eq 10, 3) := by decide +kernel
theorem dX6_needFor_7 : decode cX6_needFor 7 = .ok (.iload_n 2, 1) := by decide +kernel
theorem dX6_needFor_8 : decode cX6_needFor 8 = .ok (.invokestatic 176, 3) := by decide +kernel
theorem dX6_needFor_11 : decode cX6_needFor 11 = .ok (.ifCond .ne 9, 3) := by decide +kernel
theorem dX6_needFor_14 : decode cX6_needFor 14 = .ok (.aload_n 0, 1) := by decide +kernel
theorem dX6_needFor_15 : decode cX6_needFor 15 = .ok (.iconst 0, 1) := by decide +kernel
theorem dX6_needFor_16 : decode cX6_needFor 16 = .ok (.invokevirtual 96, 3) := by decide +kernel
theorem dX6_needFor_19 : decode cX6_needFor 19 = .ok (.ireturn, 1) := by decide +kernel
theorem dX6_needFor_20 : decode cX6_needFor 20 = .ok (.bipush 99, 2) := by decide +kernel
theorem dX6_needFor_22 : decode cX6_needFor 22 = .ok (.istore_n 3, 1) := by decide +kernel
theorem dX6_needFor_23 : decode cX6_needFor 23 = .ok (.iload_n 3, 1) := by decide +kernel
theorem dX6_needFor_24 : decode cX6_needFor 24 = .ok (.ifCond .lt 20, 3) := by decide +kernel
theorem dX6_needFor_27 : decode cX6_needFor 27 = .ok (.aload_n 0, 1) := by decide +kernel
theorem dX6_needFor_28 : decode cX6_needFor 28 = .ok (.iload_n 1, 1) := by decide +kernel
theorem dX6_needFor_29 : decode cX6_needFor 29 = .ok (.iload_n 2, 1) := by decide +kernel
theorem dX6_needFor_30 : decode cX6_needFor 30 = .ok (.iconst 2, 1) := by decide +kernel
theorem dX6_needFor_31 : decode cX6_needFor 31 = .ok (.iload_n 3, 1) := by decide +kernel
theorem dX6_needFor_32 : decode cX6_needFor 32 = .ok (.invokevirtual 182, 3) := by decide +kernel
theorem dX6_needFor_35 : decode cX6_needFor 35 = .ok (.ifCond .ne 9, 3) := by decide +kernel
theorem dX6_needFor_38 : decode cX6_needFor 38 = .ok (.iinc 3 (-1), 3) := by decide +kernel
theorem dX6_needFor_41 : decode cX6_needFor 41 = .ok (.goto (-18), 3) := by decide +kernel
theorem dX6_needFor_44 : decode cX6_needFor 44 = .ok (.iload_n 3, 1) := by decide +kernel
theorem dX6_needFor_45 : decode cX6_needFor 45 = .ok (.ifCond .lt 7, 3) := by decide +kernel
theorem dX6_needFor_48 : decode cX6_needFor 48 = .ok (.iload_n 3, 1) := by decide +kernel
theorem dX6_needFor_49 : decode cX6_needFor 49 = .ok (.goto 8, 3) := by decide +kernel
theorem dX6_needFor_52 : decode cX6_needFor 52 = .ok (.aload_n 0, 1) := by decide +kernel
theorem dX6_needFor_53 : decode cX6_needFor 53 = .ok (.iconst 3, 1) := by decide +kernel
theorem dX6_needFor_54 : decode cX6_needFor 54 = .ok (.invokevirtual 96, 3) := by decide +kernel
theorem dX6_needFor_57 : decode cX6_needFor 57 = .ok (.ireturn, 1) := by decide +kernel
theorem dX6_kindsFor_0 : decode cX6_kindsFor 0 = .ok (.iload_n 1, 1) := by decide +kernel
theorem dX6_kindsFor_1 : decode cX6_kindsFor 1 = .ok (.invokestatic 87, 3) := by decide +kernel
theorem dX6_kindsFor_4 : decode cX6_kindsFor 4 = .ok (.ifCond .eq 10, 3) := by decide +kernel
theorem dX6_kindsFor_7 : decode cX6_kindsFor 7 = .ok (.iload_n 2, 1) := by decide +kernel
theorem dX6_kindsFor_8 : decode cX6_kindsFor 8 = .ok (.invokestatic 176, 3) := by decide +kernel
theorem dX6_kindsFor_11 : decode cX6_kindsFor 11 = .ok (.ifCond .ne 9, 3) := by decide +kernel
theorem dX6_kindsFor_14 : decode cX6_kindsFor 14 = .ok (.aload_n 0, 1) := by decide +kernel
theorem dX6_kindsFor_15 : decode cX6_kindsFor 15 = .ok (.iconst 0, 1) := by decide +kernel
theorem dX6_kindsFor_16 : decode cX6_kindsFor 16 = .ok (.invokevirtual 96, 3) := by decide +kernel
theorem dX6_kindsFor_19 : decode cX6_kindsFor 19 = .ok (.ireturn, 1) := by decide +kernel
theorem dX6_kindsFor_20 : decode cX6_kindsFor 20 = .ok (.iconst 0, 1) := by decide +kernel
theorem dX6_kindsFor_21 : decode cX6_kindsFor 21 = .ok (.istore_n 3, 1) := by decide +kernel
theorem dX6_kindsFor_22 : decode cX6_kindsFor 22 = .ok (.iconst 0, 1) := by decide +kernel
theorem dX6_kindsFor_23 : decode cX6_kindsFor 23 = .ok (.istore 4, 2) := by decide +kernel
theorem dX6_kindsFor_25 : decode cX6_kindsFor 25 = .ok (.iload 4, 2) := by decide +kernel
theorem dX6_kindsFor_27 : decode cX6_kindsFor 27 = .ok (.bipush 6, 2) := by decide +kernel
theorem dX6_kindsFor_29 : decode cX6_kindsFor 29 = .ok (.if_icmp .gt 32, 3) := by decide +kernel
theorem dX6_kindsFor_32 : decode cX6_kindsFor 32 = .ok (.iload_n 3, 1) := by decide +kernel
theorem dX6_kindsFor_33 : decode cX6_kindsFor 33 = .ok (.aload_n 0, 1) := by decide +kernel
theorem dX6_kindsFor_34 : decode cX6_kindsFor 34 = .ok (.iload_n 1, 1) := by decide +kernel
theorem dX6_kindsFor_35 : decode cX6_kindsFor 35 = .ok (.iload_n 2, 1) := by decide +kernel
theorem dX6_kindsFor_36 : decode cX6_kindsFor 36 = .ok (.iconst 0, 1) := by decide +kernel
theorem dX6_kindsFor_37 : decode cX6_kindsFor 37 = .ok (.iload 4, 2) := by decide +kernel
theorem dX6_kindsFor_39 : decode cX6_kindsFor 39 = .ok (.invokevirtual 182, 3) := by decide +kernel
theorem dX6_kindsFor_42 : decode cX6_kindsFor 42 = .ok (.ifCond .eq 10, 3) := by decide +kernel
theorem dX6_kindsFor_45 : decode cX6_kindsFor 45 = .ok (.iconst 1, 1) := by decide +kernel
theorem dX6_kindsFor_46 : decode cX6_kindsFor 46 = .ok (.iload 4, 2) := by decide +kernel
theorem dX6_kindsFor_48 : decode cX6_kindsFor 48 = .ok (.ishl, 1) := by decide +kernel
theorem dX6_kindsFor_49 : decode cX6_kindsFor 49 = .ok (.goto 4, 3) := by decide +kernel
theorem dX6_kindsFor_52 : decode cX6_kindsFor 52 = .ok (.iconst 0, 1) := by decide +kernel
theorem dX6_kindsFor_53 : decode cX6_kindsFor 53 = .ok (.ior, 1) := by decide +kernel
theorem dX6_kindsFor_54 : decode cX6_kindsFor 54 = .ok (.istore_n 3, 1) := by decide +kernel
theorem dX6_kindsFor_55 : decode cX6_kindsFor 55 = .ok (.iinc 4 1, 3) := by decide +kernel
theorem dX6_kindsFor_58 : decode cX6_kindsFor 58 = .ok (.goto (-33), 3) := by decide +kernel
theorem dX6_kindsFor_61 : decode cX6_kindsFor 61 = .ok (.iload_n 3, 1) := by decide +kernel
theorem dX6_kindsFor_62 : decode cX6_kindsFor 62 = .ok (.ireturn, 1) := by decide +kernel
theorem dX6_kindFor_0 : decode cX6_kindFor 0 = .ok (.iload_n 1, 1) := by decide +kernel
theorem dX6_kindFor_1 : decode cX6_kindFor 1 = .ok (.invokestatic 87, 3) := by decide +kernel
theorem dX6_kindFor_4 : decode cX6_kindFor 4 = .ok (.ifCond .eq 10, 3) := by decide +kernel
theorem dX6_kindFor_7 : decode cX6_kindFor 7 = .ok (.iload_n 2, 1) := by decide +kernel
theorem dX6_kindFor_8 : decode cX6_kindFor 8 = .ok (.invokestatic 176, 3) := by decide +kernel
theorem dX6_kindFor_11 : decode cX6_kindFor 11 = .ok (.ifCond .ne 9, 3) := by decide +kernel
theorem dX6_kindFor_14 : decode cX6_kindFor 14 = .ok (.aload_n 0, 1) := by decide +kernel
theorem dX6_kindFor_15 : decode cX6_kindFor 15 = .ok (.iconst 0, 1) := by decide +kernel
theorem dX6_kindFor_16 : decode cX6_kindFor 16 = .ok (.invokevirtual 96, 3) := by decide +kernel
theorem dX6_kindFor_19 : decode cX6_kindFor 19 = .ok (.ireturn, 1) := by decide +kernel
theorem dX6_kindFor_20 : decode cX6_kindFor 20 = .ok (.iconst 0, 1) := by decide +kernel
theorem dX6_kindFor_21 : decode cX6_kindFor 21 = .ok (.istore_n 3, 1) := by decide +kernel
theorem dX6_kindFor_22 : decode cX6_kindFor 22 = .ok (.iconst (-1), 1) := by decide +kernel
theorem dX6_kindFor_23 : decode cX6_kindFor 23 = .ok (.istore 4, 2) := by decide +kernel
theorem dX6_kindFor_25 : decode cX6_kindFor 25 = .ok (.iconst 0, 1) := by decide +kernel
theorem dX6_kindFor_26 : decode cX6_kindFor 26 = .ok (.istore 5, 2) := by decide +kernel
theorem dX6_kindFor_28 : decode cX6_kindFor 28 = .ok (.iload 5, 2) := by decide +kernel
theorem dX6_kindFor_30 : decode cX6_kindFor 30 = .ok (.bipush 6, 2) := by decide +kernel
theorem dX6_kindFor_32 : decode cX6_kindFor 32 = .ok (.if_icmp .gt 51, 3) := by decide +kernel
theorem dX6_kindFor_35 : decode cX6_kindFor 35 = .ok (.aload_n 0, 1) := by decide +kernel
theorem dX6_kindFor_36 : decode cX6_kindFor 36 = .ok (.invokevirtual 160, 3) := by decide +kernel
theorem dX6_kindFor_39 : decode cX6_kindFor 39 = .ok (.aload_n 0, 1) := by decide +kernel
theorem dX6_kindFor_40 : decode cX6_kindFor 40 = .ok (.iload_n 1, 1) := by decide +kernel
theorem dX6_kindFor_41 : decode cX6_kindFor 41 = .ok (.iconst 0, 1) := by decide +kernel
theorem dX6_kindFor_42 : decode cX6_kindFor 42 = .ok (.iload 5, 2) := by decide +kernel
theorem dX6_kindFor_44 : decode cX6_kindFor 44 = .ok (.invokevirtual 43, 3) := by decide +kernel
theorem dX6_kindFor_47 : decode cX6_kindFor 47 = .ok (.aload_n 0, 1) := by decide +kernel
theorem dX6_kindFor_48 : decode cX6_kindFor 48 = .ok (.iload_n 2, 1) := by decide +kernel
theorem dX6_kindFor_49 : decode cX6_kindFor 49 = .ok (.invokevirtual 166, 3) := by decide +kernel
theorem dX6_kindFor_52 : decode cX6_kindFor 52 = .ok (.istore 6, 2) := by decide +kernel
theorem dX6_kindFor_54 : decode cX6_kindFor 54 = .ok (.iload 6, 2) := by decide +kernel
theorem dX6_kindFor_56 : decode cX6_kindFor 56 = .ok (.iload 4, 2) := by decide +kernel
theorem dX6_kindFor_58 : decode cX6_kindFor 58 = .ok (.if_icmp .le 8, 3) := by decide +kernel
theorem dX6_kindFor_61 : decode cX6_kindFor 61 = .ok (.iload 5, 2) := by decide +kernel
theorem dX6_kindFor_63 : decode cX6_kindFor 63 = .ok (.goto 4, 3) := by decide +kernel
theorem dX6_kindFor_66 : decode cX6_kindFor 66 = .ok (.iload_n 3, 1) := by decide +kernel
theorem dX6_kindFor_67 : decode cX6_kindFor 67 = .ok (.istore_n 3, 1) := by decide +kernel
theorem dX6_kindFor_68 : decode cX6_kindFor 68 = .ok (.iload 4, 2) := by decide +kernel
theorem dX6_kindFor_70 : decode cX6_kindFor 70 = .ok (.iload 6, 2) := by decide +kernel
theorem dX6_kindFor_72 : decode cX6_kindFor 72 = .ok (.invokestatic 68, 3) := by decide +kernel
theorem dX6_kindFor_75 : decode cX6_kindFor 75 = .ok (.istore 4, 2) := by decide +kernel
theorem dX6_kindFor_77 : decode cX6_kindFor 77 = .ok (.iinc 5 1, 3) := by decide +kernel
theorem dX6_kindFor_80 : decode cX6_kindFor 80 = .ok (.goto (-52), 3) := by decide +kernel
theorem dX6_kindFor_83 : decode cX6_kindFor 83 = .ok (.iload_n 3, 1) := by decide +kernel
theorem dX6_kindFor_84 : decode cX6_kindFor 84 = .ok (.ireturn, 1) := by decide +kernel
theorem dX6_turns_0 : decode cX6_turns 0 = .ok (.aload_n 0, 1) := by decide +kernel
theorem dX6_turns_1 : decode cX6_turns 1 = .ok (.iload_n 1, 1) := by decide +kernel
theorem dX6_turns_2 : decode cX6_turns 2 = .ok (.iconst 4, 1) := by decide +kernel
theorem dX6_turns_3 : decode cX6_turns 3 = .ok (.iconst 1, 1) := by decide +kernel
theorem dX6_turns_4 : decode cX6_turns 4 = .ok (.aload_n 0, 1) := by decide +kernel
theorem dX6_turns_5 : decode cX6_turns 5 = .ok (.iload_n 1, 1) := by decide +kernel
theorem dX6_turns_6 : decode cX6_turns 6 = .ok (.iconst 4, 1) := by decide +kernel
theorem dX6_turns_7 : decode cX6_turns 7 = .ok (.invokevirtual 64, 3) := by decide +kernel
theorem dX6_turns_10 : decode cX6_turns 10 = .ok (.isub, 1) := by decide +kernel
theorem dX6_turns_11 : decode cX6_turns 11 = .ok (.invokevirtual 43, 3) := by decide +kernel
theorem dX6_turns_14 : decode cX6_turns 14 = .ok (.return_, 1) := by decide +kernel
theorem dX6_dryBy_0 : decode cX6_dryBy 0 = .ok (.aload_n 0, 1) := by decide +kernel
theorem dX6_dryBy_1 : decode cX6_dryBy 1 = .ok (.invokevirtual 160, 3) := by decide +kernel
theorem dX6_dryBy_4 : decode cX6_dryBy 4 = .ok (.iconst 0, 1) := by decide +kernel
theorem dX6_dryBy_5 : decode cX6_dryBy 5 = .ok (.istore_n 3, 1) := by decide +kernel
theorem dX6_dryBy_6 : decode cX6_dryBy 6 = .ok (.iload_n 3, 1) := by decide +kernel
theorem dX6_dryBy_7 : decode cX6_dryBy 7 = .ok (.bipush 11, 2) := by decide +kernel
theorem dX6_dryBy_9 : decode cX6_dryBy 9 = .ok (.if_icmp .ge 23, 3) := by decide +kernel
theorem dX6_dryBy_12 : decode cX6_dryBy 12 = .ok (.iload_n 1, 1) := by decide +kernel
theorem dX6_dryBy_13 : decode cX6_dryBy 13 = .ok (.iload_n 3, 1) := by decide +kernel
theorem dX6_dryBy_14 : decode cX6_dryBy 14 = .ok (.ishr, 1) := by decide +kernel
theorem dX6_dryBy_15 : decode cX6_dryBy 15 = .ok (.iconst 1, 1) := by decide +kernel
theorem dX6_dryBy_16 : decode cX6_dryBy 16 = .ok (.iand, 1) := by decide +kernel
theorem dX6_dryBy_17 : decode cX6_dryBy 17 = .ok (.iconst 1, 1) := by decide +kernel
theorem dX6_dryBy_18 : decode cX6_dryBy 18 = .ok (.if_icmp .ne 8, 3) := by decide +kernel
theorem dX6_dryBy_21 : decode cX6_dryBy 21 = .ok (.aload_n 0, 1) := by decide +kernel
theorem dX6_dryBy_22 : decode cX6_dryBy 22 = .ok (.iload_n 3, 1) := by decide +kernel
theorem dX6_dryBy_23 : decode cX6_dryBy 23 = .ok (.invokevirtual 186, 3) := by decide +kernel
theorem dX6_dryBy_26 : decode cX6_dryBy 26 = .ok (.iinc 3 1, 3) := by decide +kernel
theorem dX6_dryBy_29 : decode cX6_dryBy 29 = .ok (.goto (-23), 3) := by decide +kernel
theorem dX6_dryBy_32 : decode cX6_dryBy 32 = .ok (.aload_n 0, 1) := by decide +kernel
theorem dX6_dryBy_33 : decode cX6_dryBy 33 = .ok (.iload_n 2, 1) := by decide +kernel
theorem dX6_dryBy_34 : decode cX6_dryBy 34 = .ok (.invokevirtual 169, 3) := by decide +kernel
theorem dX6_dryBy_37 : decode cX6_dryBy 37 = .ok (.istore_n 3, 1) := by decide +kernel
theorem dX6_dryBy_38 : decode cX6_dryBy 38 = .ok (.aload_n 0, 1) := by decide +kernel
theorem dX6_dryBy_39 : decode cX6_dryBy 39 = .ok (.invokevirtual 163, 3) := by decide +kernel
theorem dX6_dryBy_42 : decode cX6_dryBy 42 = .ok (.iload_n 3, 1) := by decide +kernel
theorem dX6_dryBy_43 : decode cX6_dryBy 43 = .ok (.ireturn, 1) := by decide +kernel
theorem dX6_turn_0 : decode cX6_turn 0 = .ok (.iload_n 1, 1) := by decide +kernel
theorem dX6_turn_1 : decode cX6_turn 1 = .ok (.i2l, 1) := by decide +kernel
theorem dX6_turn_2 : decode cX6_turn 2 = .ok (.lconst 0, 1) := by decide +kernel
theorem dX6_turn_3 : decode cX6_turn 3 = .ok (.ldc2_w 113, 3) := by decide +kernel
theorem dX6_turn_6 : decode cX6_turn 6 = .ok (.invokestatic 54, 3) := by decide +kernel
theorem dX6_turn_9 : decode cX6_turn 9 = .ok (.ifCond .eq 15, 3) := by decide +kernel
theorem dX6_turn_12 : decode cX6_turn 12 = .ok (.iload_n 2, 1) := by decide +kernel
theorem dX6_turn_13 : decode cX6_turn 13 = .ok (.i2l, 1) := by decide +kernel
theorem dX6_turn_14 : decode cX6_turn 14 = .ok (.lconst 0, 1) := by decide +kernel
theorem dX6_turn_15 : decode cX6_turn 15 = .ok (.ldc2_w 189, 3) := by decide +kernel
theorem dX6_turn_18 : decode cX6_turn 18 = .ok (.invokestatic 54, 3) := by decide +kernel
theorem dX6_turn_21 : decode cX6_turn 21 = .ok (.ifCond .ne 9, 3) := by decide +kernel
theorem dX6_turn_24 : decode cX6_turn 24 = .ok (.aload_n 0, 1) := by decide +kernel
theorem dX6_turn_25 : decode cX6_turn 25 = .ok (.iconst 0, 1) := by decide +kernel
theorem dX6_turn_26 : decode cX6_turn 26 = .ok (.invokevirtual 96, 3) := by decide +kernel
theorem dX6_turn_29 : decode cX6_turn 29 = .ok (.ireturn, 1) := by decide +kernel
theorem dX6_turn_30 : decode cX6_turn 30 = .ok (.iconst (-1), 1) := by decide +kernel
theorem dX6_turn_31 : decode cX6_turn 31 = .ok (.istore_n 3, 1) := by decide +kernel
theorem dX6_turn_32 : decode cX6_turn 32 = .ok (.iconst 0, 1) := by decide +kernel
theorem dX6_turn_33 : decode cX6_turn 33 = .ok (.istore 4, 2) := by decide +kernel
theorem dX6_turn_35 : decode cX6_turn 35 = .ok (.iload 4, 2) := by decide +kernel
theorem dX6_turn_37 : decode cX6_turn 37 = .ok (.sipush 2047, 3) := by decide +kernel
theorem dX6_turn_40 : decode cX6_turn 40 = .ok (.if_icmp .gt 56, 3) := by decide +kernel
theorem dX6_turn_43 : decode cX6_turn 43 = .ok (.iload_n 3, 1) := by decide +kernel
theorem dX6_turn_44 : decode cX6_turn 44 = .ok (.ifCond .lt 15, 3) := by decide +kernel
theorem dX6_turn_47 : decode cX6_turn 47 = .ok (.iload 4, 2) := by decide +kernel
theorem dX6_turn_49 : decode cX6_turn 49 = .ok (.invokestatic 191, 3) := by decide +kernel
theorem dX6_turn_52 : decode cX6_turn 52 = .ok (.iload_n 3, 1) := by decide +kernel
theorem dX6_turn_53 : decode cX6_turn 53 = .ok (.invokestatic 191, 3) := by decide +kernel
theorem dX6_turn_56 : decode cX6_turn 56 = .ok (.if_icmp .ge 7, 3) := by decide +kernel
theorem dX6_turn_59 : decode cX6_turn 59 = .ok (.iconst 1, 1) := by decide +kernel
theorem dX6_turn_60 : decode cX6_turn 60 = .ok (.goto 4, 3) := by decide +kernel
theorem dX6_turn_63 : decode cX6_turn 63 = .ok (.iconst 0, 1) := by decide +kernel
theorem dX6_turn_64 : decode cX6_turn 64 = .ok (.istore 5, 2) := by decide +kernel
theorem dX6_turn_66 : decode cX6_turn 66 = .ok (.iload 5, 2) := by decide +kernel
theorem dX6_turn_68 : decode cX6_turn 68 = .ok (.ifCond .eq 20, 3) := by decide +kernel
theorem dX6_turn_71 : decode cX6_turn 71 = .ok (.aload_n 0, 1) := by decide +kernel
theorem dX6_turn_72 : decode cX6_turn 72 = .ok (.iload 4, 2) := by decide +kernel
theorem dX6_turn_74 : decode cX6_turn 74 = .ok (.iload_n 2, 1) := by decide +kernel
theorem dX6_turn_75 : decode cX6_turn 75 = .ok (.invokevirtual 194, 3) := by decide +kernel
theorem dX6_turn_78 : decode cX6_turn 78 = .ok (.iload_n 1, 1) := by decide +kernel
theorem dX6_turn_79 : decode cX6_turn 79 = .ok (.iand, 1) := by decide +kernel
theorem dX6_turn_80 : decode cX6_turn 80 = .ok (.ifCond .ne 8, 3) := by decide +kernel
theorem dX6_turn_83 : decode cX6_turn 83 = .ok (.iload 4, 2) := by decide +kernel
theorem dX6_turn_85 : decode cX6_turn 85 = .ok (.goto 4, 3) := by decide +kernel
theorem dX6_turn_88 : decode cX6_turn 88 = .ok (.iload_n 3, 1) := by decide +kernel
theorem dX6_turn_89 : decode cX6_turn 89 = .ok (.istore_n 3, 1) := by decide +kernel
theorem dX6_turn_90 : decode cX6_turn 90 = .ok (.iinc 4 1, 3) := by decide +kernel
theorem dX6_turn_93 : decode cX6_turn 93 = .ok (.goto (-58), 3) := by decide +kernel
theorem dX6_turn_96 : decode cX6_turn 96 = .ok (.iload_n 3, 1) := by decide +kernel
theorem dX6_turn_97 : decode cX6_turn 97 = .ok (.ifCond .ge 11, 3) := by decide +kernel
theorem dX6_turn_100 : decode cX6_turn 100 = .ok (.aload_n 0, 1) := by decide +kernel
theorem dX6_turn_101 : decode cX6_turn 101 = .ok (.iconst 3, 1) := by decide +kernel
theorem dX6_turn_102 : decode cX6_turn 102 = .ok (.invokevirtual 96, 3) := by decide +kernel
theorem dX6_turn_105 : decode cX6_turn 105 = .ok (.goto 4, 3) := by decide +kernel
theorem dX6_turn_108 : decode cX6_turn 108 = .ok (.iload_n 3, 1) := by decide +kernel
theorem dX6_turn_109 : decode cX6_turn 109 = .ok (.ireturn, 1) := by decide +kernel
theorem dX6_best_0 : decode cX6_best 0 = .ok (.iload_n 1, 1) := by decide +kernel
theorem dX6_best_1 : decode cX6_best 1 = .ok (.invokestatic 176, 3) := by decide +kernel
theorem dX6_best_4 : decode cX6_best 4 = .ok (.ifCond .ne 9, 3) := by decide +kernel
theorem dX6_best_7 : decode cX6_best 7 = .ok (.aload_n 0, 1) := by decide +kernel
theorem dX6_best_8 : decode cX6_best 8 = .ok (.iconst 0, 1) := by decide +kernel
theorem dX6_best_9 : decode cX6_best 9 = .ok (.invokevirtual 96, 3) := by decide +kernel
theorem dX6_best_12 : decode cX6_best 12 = .ok (.ireturn, 1) := by decide +kernel
theorem dX6_best_13 : decode cX6_best 13 = .ok (.iconst 0, 1) := by decide +kernel
theorem dX6_best_14 : decode cX6_best 14 = .ok (.istore_n 2, 1) := by decide +kernel
theorem dX6_best_15 : decode cX6_best 15 = .ok (.bipush 12, 2) := by decide +kernel
theorem dX6_best_17 : decode cX6_best 17 = .ok (.istore_n 3, 1) := by decide +kernel

theorem dX0_isUnder_0 : decode cX0_isUnder 0 = .ok (.iload_n 0, 1) := by decide +kernel
theorem dX0_isUnder_1 : decode cX0_isUnder 1 = .ok (.istore_n 2, 1) := by decide +kernel
theorem dX0_isUnder_2 : decode cX0_isUnder 2 = .ok (.iconst 0, 1) := by decide +kernel
theorem dX0_isUnder_3 : decode cX0_isUnder 3 = .ok (.istore_n 3, 1) := by decide +kernel
theorem dX0_isUnder_4 : decode cX0_isUnder 4 = .ok (.iload_n 3, 1) := by decide +kernel
theorem dX0_isUnder_5 : decode cX0_isUnder 5 = .ok (.bipush 7, 2) := by decide +kernel
theorem dX0_isUnder_7 : decode cX0_isUnder 7 = .ok (.if_icmp .ge 26, 3) := by decide +kernel
theorem dX0_isUnder_10 : decode cX0_isUnder 10 = .ok (.iload_n 2, 1) := by decide +kernel
theorem dX0_isUnder_11 : decode cX0_isUnder 11 = .ok (.ifCond .lt 22, 3) := by decide +kernel
theorem dX0_isUnder_14 : decode cX0_isUnder 14 = .ok (.iload_n 2, 1) := by decide +kernel
theorem dX0_isUnder_15 : decode cX0_isUnder 15 = .ok (.iload_n 1, 1) := by decide +kernel
theorem dX0_isUnder_16 : decode cX0_isUnder 16 = .ok (.if_icmp .ne 5, 3) := by decide +kernel
theorem dX0_isUnder_19 : decode cX0_isUnder 19 = .ok (.iconst 1, 1) := by decide +kernel
theorem dX0_isUnder_20 : decode cX0_isUnder 20 = .ok (.ireturn, 1) := by decide +kernel
theorem dX0_isUnder_21 : decode cX0_isUnder 21 = .ok (.getstatic 9, 3) := by decide +kernel
theorem dX0_isUnder_24 : decode cX0_isUnder 24 = .ok (.iload_n 2, 1) := by decide +kernel
theorem dX0_isUnder_25 : decode cX0_isUnder 25 = .ok (.iaload, 1) := by decide +kernel
theorem dX0_isUnder_26 : decode cX0_isUnder 26 = .ok (.istore_n 2, 1) := by decide +kernel
theorem dX0_isUnder_27 : decode cX0_isUnder 27 = .ok (.iinc 3 1, 3) := by decide +kernel
theorem dX0_isUnder_30 : decode cX0_isUnder 30 = .ok (.goto (-26), 3) := by decide +kernel
theorem dX0_isUnder_33 : decode cX0_isUnder 33 = .ok (.iconst 0, 1) := by decide +kernel
theorem dX0_isUnder_34 : decode cX0_isUnder 34 = .ok (.ireturn, 1) := by decide +kernel
theorem dX0_using_0 : decode cX0_using 0 = .ok (.iload_n 2, 1) := by decide +kernel
theorem dX0_using_1 : decode cX0_using 1 = .ok (.iconst 2, 1) := by decide +kernel
theorem dX0_using_2 : decode cX0_using 2 = .ok (.irem, 1) := by decide +kernel
theorem dX0_using_3 : decode cX0_using 3 = .ok (.ifCond .ne 7, 3) := by decide +kernel
theorem dX0_using_6 : decode cX0_using 6 = .ok (.iload_n 1, 1) := by decide +kernel
theorem dX0_using_7 : decode cX0_using 7 = .ok (.goto 4, 3) := by decide +kernel
theorem dX0_using_10 : decode cX0_using 10 = .ok (.iconst 0, 1) := by decide +kernel
theorem dX0_using_11 : decode cX0_using 11 = .ok (.istore_n 3, 1) := by decide +kernel
theorem dX0_using_12 : decode cX0_using 12 = .ok (.iconst 0, 1) := by decide +kernel
theorem dX0_using_13 : decode cX0_using 13 = .ok (.iconst 2, 1) := by decide +kernel
theorem dX0_using_14 : decode cX0_using 14 = .ok (.iload_n 1, 1) := by decide +kernel
theorem dX0_using_15 : decode cX0_using 15 = .ok (.imul, 1) := by decide +kernel
theorem dX0_using_16 : decode cX0_using 16 = .ok (.iconst 3, 1) := by decide +kernel
theorem dX0_using_17 : decode cX0_using 17 = .ok (.isub, 1) := by decide +kernel
theorem dX0_using_18 : decode cX0_using 18 = .ok (.invokestatic 13, 3) := by decide +kernel
theorem dX0_using_21 : decode cX0_using 21 = .ok (.istore 4, 2) := by decide +kernel
theorem dX0_using_23 : decode cX0_using 23 = .ok (.iload_n 0, 1) := by decide +kernel
theorem dX0_using_24 : decode cX0_using 24 = .ok (.tableswitch 68 1 6 #[40, 46, 50, 53, 68, 42], 40) := by decide +kernel
theorem dX0_using_64 : decode cX0_using 64 = .ok (.iload_n 3, 1) := by decide +kernel
theorem dX0_using_65 : decode cX0_using 65 = .ok (.ireturn, 1) := by decide +kernel
theorem dX0_using_66 : decode cX0_using 66 = .ok (.iload_n 3, 1) := by decide +kernel
theorem dX0_using_67 : decode cX0_using 67 = .ok (.iconst 1, 1) := by decide +kernel
theorem dX0_using_68 : decode cX0_using 68 = .ok (.iadd, 1) := by decide +kernel
theorem dX0_using_69 : decode cX0_using 69 = .ok (.ireturn, 1) := by decide +kernel
theorem dX0_using_70 : decode cX0_using 70 = .ok (.iconst 2, 1) := by decide +kernel
theorem dX0_using_71 : decode cX0_using 71 = .ok (.iload_n 1, 1) := by decide +kernel
theorem dX0_using_72 : decode cX0_using 72 = .ok (.imul, 1) := by decide +kernel
theorem dX0_using_73 : decode cX0_using 73 = .ok (.ireturn, 1) := by decide +kernel
theorem dX0_using_74 : decode cX0_using 74 = .ok (.iload 4, 2) := by decide +kernel
theorem dX0_using_76 : decode cX0_using 76 = .ok (.ireturn, 1) := by decide +kernel
theorem dX0_using_77 : decode cX0_using 77 = .ok (.iload_n 2, 1) := by decide +kernel
theorem dX0_using_78 : decode cX0_using 78 = .ok (.bipush 6, 2) := by decide +kernel
theorem dX0_using_80 : decode cX0_using 80 = .ok (.irem, 1) := by decide +kernel
theorem dX0_using_81 : decode cX0_using 81 = .ok (.iconst 5, 1) := by decide +kernel
theorem dX0_using_82 : decode cX0_using 82 = .ok (.if_icmp .ne 8, 3) := by decide +kernel
theorem dX0_using_85 : decode cX0_using 85 = .ok (.iload 4, 2) := by decide +kernel
theorem dX0_using_87 : decode cX0_using 87 = .ok (.goto 4, 3) := by decide +kernel
theorem dX0_using_90 : decode cX0_using 90 = .ok (.iconst 0, 1) := by decide +kernel
theorem dX0_using_91 : decode cX0_using 91 = .ok (.ireturn, 1) := by decide +kernel
theorem dX0_using_92 : decode cX0_using 92 = .ok (.iload_n 1, 1) := by decide +kernel
theorem dX0_using_93 : decode cX0_using 93 = .ok (.ireturn, 1) := by decide +kernel
theorem dX0_keeping_0 : decode cX0_keeping 0 = .ok (.iload_n 0, 1) := by decide +kernel
theorem dX0_keeping_1 : decode cX0_keeping 1 = .ok (.tableswitch 50 2 6 #[40, 44, 44, 50, 35], 35) := by decide +kernel
theorem dX0_keeping_36 : decode cX0_keeping 36 = .ok (.iload_n 1, 1) := by decide +kernel
theorem dX0_keeping_37 : decode cX0_keeping 37 = .ok (.bipush 10, 2) := by decide +kernel
theorem dX0_keeping_39 : decode cX0_keeping 39 = .ok (.iadd, 1) := by decide +kernel
theorem dX0_keeping_40 : decode cX0_keeping 40 = .ok (.ireturn, 1) := by decide +kernel
theorem dX0_keeping_41 : decode cX0_keeping 41 = .ok (.iload_n 1, 1) := by decide +kernel
theorem dX0_keeping_42 : decode cX0_keeping 42 = .ok (.iconst 2, 1) := by decide +kernel
theorem dX0_keeping_43 : decode cX0_keeping 43 = .ok (.idiv, 1) := by decide +kernel
theorem dX0_keeping_44 : decode cX0_keeping 44 = .ok (.ireturn, 1) := by decide +kernel
theorem dX0_keeping_45 : decode cX0_keeping 45 = .ok (.iload_n 1, 1) := by decide +kernel
theorem dX0_keeping_46 : decode cX0_keeping 46 = .ok (.iconst 2, 1) := by decide +kernel
theorem dX0_keeping_47 : decode cX0_keeping 47 = .ok (.idiv, 1) := by decide +kernel
theorem dX0_keeping_48 : decode cX0_keeping 48 = .ok (.iload_n 2, 1) := by decide +kernel
theorem dX0_keeping_49 : decode cX0_keeping 49 = .ok (.iadd, 1) := by decide +kernel
theorem dX0_keeping_50 : decode cX0_keeping 50 = .ok (.ireturn, 1) := by decide +kernel
theorem dX0_keeping_51 : decode cX0_keeping 51 = .ok (.iload_n 1, 1) := by decide +kernel
theorem dX0_keeping_52 : decode cX0_keeping 52 = .ok (.ireturn, 1) := by decide +kernel
theorem dX0_losing_0 : decode cX0_losing 0 = .ok (.iload_n 0, 1) := by decide +kernel
theorem dX0_losing_1 : decode cX0_losing 1 = .ok (.tableswitch 35 2 5 #[33, 33, 33, 31], 31) := by decide +kernel
theorem dX0_losing_32 : decode cX0_losing 32 = .ok (.iconst 5, 1) := by decide +kernel
theorem dX0_losing_33 : decode cX0_losing 33 = .ok (.ireturn, 1) := by decide +kernel
theorem dX0_losing_34 : decode cX0_losing 34 = .ok (.iconst 1, 1) := by decide +kernel
theorem dX0_losing_35 : decode cX0_losing 35 = .ok (.ireturn, 1) := by decide +kernel
theorem dX0_losing_36 : decode cX0_losing 36 = .ok (.iconst 0, 1) := by decide +kernel
theorem dX0_losing_37 : decode cX0_losing 37 = .ok (.ireturn, 1) := by decide +kernel
theorem dX1_init_0 : decode cX1_init 0 = .ok (.aload_n 0, 1) := by decide +kernel
theorem dX1_init_1 : decode cX1_init 1 = .ok (.invokespecial 3, 3) := by decide +kernel
theorem dX1_init_4 : decode cX1_init 4 = .ok (.aload_n 0, 1) := by decide +kernel
theorem dX1_init_5 : decode cX1_init 5 = .ok (.bipush 11, 2) := by decide +kernel
theorem dX1_init_7 : decode cX1_init 7 = .ok (.newarray .int, 2) := by decide +kernel
theorem dX1_init_9 : decode cX1_init 9 = .ok (.putfield 9, 3) := by decide +kernel
theorem dX1_init_12 : decode cX1_init 12 = .ok (.aload_n 0, 1) := by decide +kernel
theorem dX1_init_13 : decode cX1_init 13 = .ok (.bipush 11, 2) := by decide +kernel
theorem dX1_init_15 : decode cX1_init 15 = .ok (.newarray .int, 2) := by decide +kernel
theorem dX1_init_17 : decode cX1_init 17 = .ok (.putfield 15, 3) := by decide +kernel
theorem dX1_init_20 : decode cX1_init 20 = .ok (.aload_n 0, 1) := by decide +kernel
theorem dX1_init_21 : decode cX1_init 21 = .ok (.bipush 11, 2) := by decide +kernel
theorem dX1_init_23 : decode cX1_init 23 = .ok (.newarray .int, 2) := by decide +kernel
theorem dX1_init_25 : decode cX1_init 25 = .ok (.putfield 18, 3) := by decide +kernel
theorem dX1_init_28 : decode cX1_init 28 = .ok (.aload_n 0, 1) := by decide +kernel
theorem dX1_init_29 : decode cX1_init 29 = .ok (.bipush 11, 2) := by decide +kernel
theorem dX1_init_31 : decode cX1_init 31 = .ok (.newarray .int, 2) := by decide +kernel
theorem dX1_init_33 : decode cX1_init 33 = .ok (.putfield 21, 3) := by decide +kernel
theorem dX1_init_36 : decode cX1_init 36 = .ok (.aload_n 0, 1) := by decide +kernel
theorem dX1_init_37 : decode cX1_init 37 = .ok (.bipush 11, 2) := by decide +kernel
theorem dX1_init_39 : decode cX1_init 39 = .ok (.newarray .int, 2) := by decide +kernel
theorem dX1_init_41 : decode cX1_init 41 = .ok (.putfield 24, 3) := by decide +kernel
theorem dX1_init_44 : decode cX1_init 44 = .ok (.aload_n 0, 1) := by decide +kernel
theorem dX1_init_45 : decode cX1_init 45 = .ok (.bipush 11, 2) := by decide +kernel
theorem dX1_init_47 : decode cX1_init 47 = .ok (.newarray .int, 2) := by decide +kernel
theorem dX1_init_49 : decode cX1_init 49 = .ok (.putfield 27, 3) := by decide +kernel
theorem dX1_init_52 : decode cX1_init 52 = .ok (.aload_n 0, 1) := by decide +kernel
theorem dX1_init_53 : decode cX1_init 53 = .ok (.bipush 10, 2) := by decide +kernel
theorem dX1_init_55 : decode cX1_init 55 = .ok (.newarray .int, 2) := by decide +kernel
theorem dX1_init_57 : decode cX1_init 57 = .ok (.putfield 30, 3) := by decide +kernel
theorem dX1_init_60 : decode cX1_init 60 = .ok (.aload_n 0, 1) := by decide +kernel
theorem dX1_init_61 : decode cX1_init 61 = .ok (.bipush 20, 2) := by decide +kernel
theorem dX1_init_63 : decode cX1_init 63 = .ok (.putfield 33, 3) := by decide +kernel
theorem dX1_init_66 : decode cX1_init 66 = .ok (.aload_n 0, 1) := by decide +kernel
theorem dX1_init_67 : decode cX1_init 67 = .ok (.iconst 1, 1) := by decide +kernel
theorem dX1_init_68 : decode cX1_init 68 = .ok (.putfield 37, 3) := by decide +kernel
theorem dX1_init_71 : decode cX1_init 71 = .ok (.aload_n 0, 1) := by decide +kernel
theorem dX1_init_72 : decode cX1_init 72 = .ok (.getfield 18, 3) := by decide +kernel
theorem dX1_init_75 : decode cX1_init 75 = .ok (.iconst 2, 1) := by decide +kernel
theorem dX1_init_76 : decode cX1_init 76 = .ok (.invokestatic 40, 3) := by decide +kernel
theorem dX1_init_79 : decode cX1_init 79 = .ok (.aload_n 0, 1) := by decide +kernel
theorem dX1_init_80 : decode cX1_init 80 = .ok (.getfield 21, 3) := by decide +kernel
theorem dX1_init_83 : decode cX1_init 83 = .ok (.bipush 10, 2) := by decide +kernel
theorem dX1_init_85 : decode cX1_init 85 = .ok (.invokestatic 40, 3) := by decide +kernel
theorem dX1_init_88 : decode cX1_init 88 = .ok (.aload_n 0, 1) := by decide +kernel
theorem dX1_init_89 : decode cX1_init 89 = .ok (.getfield 30, 3) := by decide +kernel
theorem dX1_init_92 : decode cX1_init 92 = .ok (.iconst (-1), 1) := by decide +kernel
theorem dX1_init_93 : decode cX1_init 93 = .ok (.invokestatic 40, 3) := by decide +kernel
theorem dX1_init_96 : decode cX1_init 96 = .ok (.return_, 1) := by decide +kernel
theorem dX1_become_0 : decode cX1_become 0 = .ok (.aload_n 1, 1) := by decide +kernel
theorem dX1_become_1 : decode cX1_become 1 = .ok (.getfield 9, 3) := by decide +kernel
theorem dX1_become_4 : decode cX1_become 4 = .ok (.iconst 0, 1) := by decide +kernel
theorem dX1_become_5 : decode cX1_become 5 = .ok (.aload_n 0, 1) := by decide +kernel
theorem dX1_become_6 : decode cX1_become 6 = .ok (.getfield 9, 3) := by decide +kernel
theorem dX1_become_9 : decode cX1_become 9 = .ok (.iconst 0, 1) := by decide +kernel
theorem dX1_become_10 : decode cX1_become 10 = .ok (.bipush 11, 2) := by decide +kernel
theorem dX1_become_12 : decode cX1_become 12 = .ok (.invokestatic 46, 3) := by decide +kernel
theorem dX1_become_15 : decode cX1_become 15 = .ok (.aload_n 1, 1) := by decide +kernel
theorem dX1_become_16 : decode cX1_become 16 = .ok (.getfield 15, 3) := by decide +kernel
theorem dX1_become_19 : decode cX1_become 19 = .ok (.iconst 0, 1) := by decide +kernel
theorem dX1_become_20 : decode cX1_become 20 = .ok (.aload_n 0, 1) := by decide +kernel
theorem dX1_become_21 : decode cX1_become 21 = .ok (.getfield 15, 3) := by decide +kernel
theorem dX1_become_24 : decode cX1_become 24 = .ok (.iconst 0, 1) := by decide +kernel
theorem dX1_become_25 : decode cX1_become 25 = .ok (.bipush 11, 2) := by decide +kernel
theorem dX1_become_27 : decode cX1_become 27 = .ok (.invokestatic 46, 3) := by decide +kernel
theorem dX1_become_30 : decode cX1_become 30 = .ok (.aload_n 1, 1) := by decide +kernel
theorem dX1_become_31 : decode cX1_become 31 = .ok (.getfield 18, 3) := by decide +kernel
theorem dX1_become_34 : decode cX1_become 34 = .ok (.iconst 0, 1) := by decide +kernel
theorem dX1_become_35 : decode cX1_become 35 = .ok (.aload_n 0, 1) := by decide +kernel
theorem dX1_become_36 : decode cX1_become 36 = .ok (.getfield 18, 3) := by decide +kernel
theorem dX1_become_39 : decode cX1_become 39 = .ok (.iconst 0, 1) := by decide +kernel
theorem dX1_become_40 : decode cX1_become 40 = .ok (.bipush 11, 2) := by decide +kernel
theorem dX1_become_42 : decode cX1_become 42 = .ok (.invokestatic 46, 3) := by decide +kernel
theorem dX1_become_45 : decode cX1_become 45 = .ok (.aload_n 1, 1) := by decide +kernel
theorem dX1_become_46 : decode cX1_become 46 = .ok (.getfield 21, 3) := by decide +kernel
theorem dX1_become_49 : decode cX1_become 49 = .ok (.iconst 0, 1) := by decide +kernel
theorem dX1_become_50 : decode cX1_become 50 = .ok (.aload_n 0, 1) := by decide +kernel
theorem dX1_become_51 : decode cX1_become 51 = .ok (.getfield 21, 3) := by decide +kernel
theorem dX1_become_54 : decode cX1_become 54 = .ok (.iconst 0, 1) := by decide +kernel
theorem dX1_become_55 : decode cX1_become 55 = .ok (.bipush 11, 2) := by decide +kernel
theorem dX1_become_57 : decode cX1_become 57 = .ok (.invokestatic 46, 3) := by decide +kernel
theorem dX1_become_60 : decode cX1_become 60 = .ok (.aload_n 1, 1) := by decide +kernel
theorem dX1_become_61 : decode cX1_become 61 = .ok (.getfield 24, 3) := by decide +kernel
theorem dX1_become_64 : decode cX1_become 64 = .ok (.iconst 0, 1) := by decide +kernel
theorem dX1_become_65 : decode cX1_become 65 = .ok (.aload_n 0, 1) := by decide +kernel
theorem dX1_become_66 : decode cX1_become 66 = .ok (.getfield 24, 3) := by decide +kernel
theorem dX1_become_69 : decode cX1_become 69 = .ok (.iconst 0, 1) := by decide +kernel
theorem dX1_become_70 : decode cX1_become 70 = .ok (.bipush 11, 2) := by decide +kernel
theorem dX1_become_72 : decode cX1_become 72 = .ok (.invokestatic 46, 3) := by decide +kernel
theorem dX1_become_75 : decode cX1_become 75 = .ok (.aload_n 1, 1) := by decide +kernel
theorem dX1_become_76 : decode cX1_become 76 = .ok (.getfield 27, 3) := by decide +kernel
theorem dX1_become_79 : decode cX1_become 79 = .ok (.iconst 0, 1) := by decide +kernel
theorem dX1_become_80 : decode cX1_become 80 = .ok (.aload_n 0, 1) := by decide +kernel
theorem dX1_become_81 : decode cX1_become 81 = .ok (.getfield 27, 3) := by decide +kernel
theorem dX1_become_84 : decode cX1_become 84 = .ok (.iconst 0, 1) := by decide +kernel
theorem dX1_become_85 : decode cX1_become 85 = .ok (.bipush 11, 2) := by decide +kernel
theorem dX1_become_87 : decode cX1_become 87 = .ok (.invokestatic 46, 3) := by decide +kernel
theorem dX1_become_90 : decode cX1_become 90 = .ok (.aload_n 1, 1) := by decide +kernel
theorem dX1_become_91 : decode cX1_become 91 = .ok (.getfield 30, 3) := by decide +kernel
theorem dX1_become_94 : decode cX1_become 94 = .ok (.iconst 0, 1) := by decide +kernel
theorem dX1_become_95 : decode cX1_become 95 = .ok (.aload_n 0, 1) := by decide +kernel
theorem dX1_become_96 : decode cX1_become 96 = .ok (.getfield 30, 3) := by decide +kernel
theorem dX1_become_99 : decode cX1_become 99 = .ok (.iconst 0, 1) := by decide +kernel
theorem dX1_become_100 : decode cX1_become 100 = .ok (.bipush 10, 2) := by decide +kernel
theorem dX1_become_102 : decode cX1_become 102 = .ok (.invokestatic 46, 3) := by decide +kernel
theorem dX1_become_105 : decode cX1_become 105 = .ok (.aload_n 0, 1) := by decide +kernel
theorem dX1_become_106 : decode cX1_become 106 = .ok (.aload_n 1, 1) := by decide +kernel
theorem dX1_become_107 : decode cX1_become 107 = .ok (.getfield 33, 3) := by decide +kernel
theorem dX1_become_110 : decode cX1_become 110 = .ok (.putfield 33, 3) := by decide +kernel
theorem dX1_become_113 : decode cX1_become 113 = .ok (.aload_n 0, 1) := by decide +kernel
theorem dX1_become_114 : decode cX1_become 114 = .ok (.aload_n 1, 1) := by decide +kernel
theorem dX1_become_115 : decode cX1_become 115 = .ok (.getfield 52, 3) := by decide +kernel
theorem dX1_become_118 : decode cX1_become 118 = .ok (.putfield 52, 3) := by decide +kernel
theorem dX1_become_121 : decode cX1_become 121 = .ok (.aload_n 0, 1) := by decide +kernel
theorem dX1_become_122 : decode cX1_become 122 = .ok (.aload_n 1, 1) := by decide +kernel
theorem dX1_become_123 : decode cX1_become 123 = .ok (.getfield 55, 3) := by decide +kernel
theorem dX1_become_126 : decode cX1_become 126 = .ok (.putfield 55, 3) := by decide +kernel
theorem dX1_become_129 : decode cX1_become 129 = .ok (.aload_n 0, 1) := by decide +kernel
theorem dX1_become_130 : decode cX1_become 130 = .ok (.aload_n 1, 1) := by decide +kernel
theorem dX1_become_131 : decode cX1_become 131 = .ok (.getfield 58, 3) := by decide +kernel
theorem dX1_become_134 : decode cX1_become 134 = .ok (.putfield 58, 3) := by decide +kernel
theorem dX1_become_137 : decode cX1_become 137 = .ok (.aload_n 0, 1) := by decide +kernel
theorem dX1_become_138 : decode cX1_become 138 = .ok (.aload_n 1, 1) := by decide +kernel
theorem dX1_become_139 : decode cX1_become 139 = .ok (.getfield 37, 3) := by decide +kernel
theorem dX1_become_142 : decode cX1_become 142 = .ok (.putfield 37, 3) := by decide +kernel
theorem dX1_become_145 : decode cX1_become 145 = .ok (.return_, 1) := by decide +kernel
theorem dX1_row_0 : decode cX1_row 0 = .ok (.iload_n 1, 1) := by decide +kernel
theorem dX1_row_1 : decode cX1_row 1 = .ok (.tableswitch 60 0 4 #[35, 40, 45, 50, 55], 35) := by decide +kernel
theorem dX1_row_36 : decode cX1_row 36 = .ok (.aload_n 0, 1) := by decide +kernel
theorem dX1_row_37 : decode cX1_row 37 = .ok (.getfield 9, 3) := by decide +kernel
theorem dX1_row_40 : decode cX1_row 40 = .ok (.areturn, 1) := by decide +kernel
theorem dX1_row_41 : decode cX1_row 41 = .ok (.aload_n 0, 1) := by decide +kernel
theorem dX1_row_42 : decode cX1_row 42 = .ok (.getfield 15, 3) := by decide +kernel
theorem dX1_row_45 : decode cX1_row 45 = .ok (.areturn, 1) := by decide +kernel
theorem dX1_row_46 : decode cX1_row 46 = .ok (.aload_n 0, 1) := by decide +kernel
theorem dX1_row_47 : decode cX1_row 47 = .ok (.getfield 18, 3) := by decide +kernel
theorem dX1_row_50 : decode cX1_row 50 = .ok (.areturn, 1) := by decide +kernel
theorem dX1_row_51 : decode cX1_row 51 = .ok (.aload_n 0, 1) := by decide +kernel
theorem dX1_row_52 : decode cX1_row 52 = .ok (.getfield 21, 3) := by decide +kernel
theorem dX1_row_55 : decode cX1_row 55 = .ok (.areturn, 1) := by decide +kernel
theorem dX1_row_56 : decode cX1_row 56 = .ok (.aload_n 0, 1) := by decide +kernel
theorem dX1_row_57 : decode cX1_row 57 = .ok (.getfield 24, 3) := by decide +kernel
theorem dX1_row_60 : decode cX1_row 60 = .ok (.areturn, 1) := by decide +kernel
theorem dX1_row_61 : decode cX1_row 61 = .ok (.aload_n 0, 1) := by decide +kernel
theorem dX1_row_62 : decode cX1_row 62 = .ok (.getfield 27, 3) := by decide +kernel
theorem dX1_row_65 : decode cX1_row 65 = .ok (.areturn, 1) := by decide +kernel
theorem dX1_usesOf_0 : decode cX1_usesOf 0 = .ok (.aload_n 0, 1) := by decide +kernel
theorem dX1_usesOf_1 : decode cX1_usesOf 1 = .ok (.getfield 9, 3) := by decide +kernel
theorem dX1_usesOf_4 : decode cX1_usesOf 4 = .ok (.iload_n 1, 1) := by decide +kernel
theorem dX1_usesOf_5 : decode cX1_usesOf 5 = .ok (.iaload, 1) := by decide +kernel
theorem dX1_usesOf_6 : decode cX1_usesOf 6 = .ok (.aload_n 0, 1) := by decide +kernel
theorem dX1_usesOf_7 : decode cX1_usesOf 7 = .ok (.getfield 18, 3) := by decide +kernel
theorem dX1_usesOf_10 : decode cX1_usesOf 10 = .ok (.iload_n 1, 1) := by decide +kernel
theorem dX1_usesOf_11 : decode cX1_usesOf 11 = .ok (.iaload, 1) := by decide +kernel
theorem dX1_usesOf_12 : decode cX1_usesOf 12 = .ok (.aload_n 0, 1) := by decide +kernel
theorem dX1_usesOf_13 : decode cX1_usesOf 13 = .ok (.getfield 58, 3) := by decide +kernel
theorem dX1_usesOf_16 : decode cX1_usesOf 16 = .ok (.invokestatic 61, 3) := by decide +kernel
theorem dX1_usesOf_19 : decode cX1_usesOf 19 = .ok (.ireturn, 1) := by decide +kernel
theorem dX1_keepsOf_0 : decode cX1_keepsOf 0 = .ok (.aload_n 0, 1) := by decide +kernel
theorem dX1_keepsOf_1 : decode cX1_keepsOf 1 = .ok (.getfield 9, 3) := by decide +kernel
theorem dX1_keepsOf_4 : decode cX1_keepsOf 4 = .ok (.iload_n 1, 1) := by decide +kernel
theorem dX1_keepsOf_5 : decode cX1_keepsOf 5 = .ok (.iaload, 1) := by decide +kernel
theorem dX1_keepsOf_6 : decode cX1_keepsOf 6 = .ok (.aload_n 0, 1) := by decide +kernel
theorem dX1_keepsOf_7 : decode cX1_keepsOf 7 = .ok (.getfield 21, 3) := by decide +kernel
theorem dX1_keepsOf_10 : decode cX1_keepsOf 10 = .ok (.iload_n 1, 1) := by decide +kernel
theorem dX1_keepsOf_11 : decode cX1_keepsOf 11 = .ok (.iaload, 1) := by decide +kernel
theorem dX1_keepsOf_12 : decode cX1_keepsOf 12 = .ok (.aload_n 0, 1) := by decide +kernel
theorem dX1_keepsOf_13 : decode cX1_keepsOf 13 = .ok (.getfield 18, 3) := by decide +kernel
theorem dX1_keepsOf_16 : decode cX1_keepsOf 16 = .ok (.iload_n 1, 1) := by decide +kernel
theorem dX1_keepsOf_17 : decode cX1_keepsOf 17 = .ok (.iaload, 1) := by decide +kernel
theorem dX1_keepsOf_18 : decode cX1_keepsOf 18 = .ok (.invokestatic 67, 3) := by decide +kernel
theorem dX1_keepsOf_21 : decode cX1_keepsOf 21 = .ok (.ireturn, 1) := by decide +kernel
theorem dX1_leadsTo_0 : decode cX1_leadsTo 0 = .ok (.iload_n 1, 1) := by decide +kernel
theorem dX1_leadsTo_1 : decode cX1_leadsTo 1 = .ok (.iconst 1, 1) := by decide +kernel
theorem dX1_leadsTo_2 : decode cX1_leadsTo 2 = .ok (.iadd, 1) := by decide +kernel
theorem dX1_leadsTo_3 : decode cX1_leadsTo 3 = .ok (.aload_n 0, 1) := by decide +kernel
theorem dX1_leadsTo_4 : decode cX1_leadsTo 4 = .ok (.getfield 24, 3) := by decide +kernel
theorem dX1_leadsTo_7 : decode cX1_leadsTo 7 = .ok (.iload_n 1, 1) := by decide +kernel
theorem dX1_leadsTo_8 : decode cX1_leadsTo 8 = .ok (.iaload, 1) := by decide +kernel
theorem dX1_leadsTo_9 : decode cX1_leadsTo 9 = .ok (.iadd, 1) := by decide +kernel
theorem dX1_leadsTo_10 : decode cX1_leadsTo 10 = .ok (.istore_n 2, 1) := by decide +kernel
theorem dX1_leadsTo_11 : decode cX1_leadsTo 11 = .ok (.iload_n 2, 1) := by decide +kernel
theorem dX1_leadsTo_12 : decode cX1_leadsTo 12 = .ok (.bipush 10, 2) := by decide +kernel
theorem dX1_leadsTo_14 : decode cX1_leadsTo 14 = .ok (.if_icmp .gt 7, 3) := by decide +kernel
theorem dX1_leadsTo_17 : decode cX1_leadsTo 17 = .ok (.iload_n 2, 1) := by decide +kernel
theorem dX1_leadsTo_18 : decode cX1_leadsTo 18 = .ok (.goto 4, 3) := by decide +kernel
theorem dX1_leadsTo_21 : decode cX1_leadsTo 21 = .ok (.iconst (-1), 1) := by decide +kernel
theorem dX1_leadsTo_22 : decode cX1_leadsTo 22 = .ok (.ireturn, 1) := by decide +kernel
theorem dX1_draw_0 : decode cX1_draw 0 = .ok (.aload_n 0, 1) := by decide +kernel
theorem dX1_draw_1 : decode cX1_draw 1 = .ok (.aload_n 0, 1) := by decide +kernel
theorem dX1_draw_2 : decode cX1_draw 2 = .ok (.getfield 37, 3) := by decide +kernel
theorem dX1_draw_5 : decode cX1_draw 5 = .ok (.ldc 70, 2) := by decide +kernel
theorem dX1_draw_7 : decode cX1_draw 7 = .ok (.imul, 1) := by decide +kernel
theorem dX1_draw_8 : decode cX1_draw 8 = .ok (.sipush 12345, 3) := by decide +kernel
theorem dX1_draw_11 : decode cX1_draw 11 = .ok (.iadd, 1) := by decide +kernel
theorem dX1_draw_12 : decode cX1_draw 12 = .ok (.putfield 37, 3) := by decide +kernel
theorem dX1_draw_15 : decode cX1_draw 15 = .ok (.aload_n 0, 1) := by decide +kernel
theorem dX1_draw_16 : decode cX1_draw 16 = .ok (.getfield 37, 3) := by decide +kernel
theorem dX1_draw_19 : decode cX1_draw 19 = .ok (.bipush 8, 2) := by decide +kernel
theorem dX1_draw_21 : decode cX1_draw 21 = .ok (.iushr, 1) := by decide +kernel
theorem dX1_draw_22 : decode cX1_draw 22 = .ok (.ireturn, 1) := by decide +kernel
theorem dX1_bring_0 : decode cX1_bring 0 = .ok (.iload_n 1, 1) := by decide +kernel
theorem dX1_bring_1 : decode cX1_bring 1 = .ok (.iconst (-1), 1) := by decide +kernel
theorem dX1_bring_2 : decode cX1_bring 2 = .ok (.if_icmp .ne 19, 3) := by decide +kernel
theorem dX1_bring_5 : decode cX1_bring 5 = .ok (.aload_n 0, 1) := by decide +kernel
theorem dX1_bring_6 : decode cX1_bring 6 = .ok (.ldc 71, 2) := by decide +kernel
theorem dX1_bring_8 : decode cX1_bring 8 = .ok (.aload_n 0, 1) := by decide +kernel
theorem dX1_bring_9 : decode cX1_bring 9 = .ok (.getfield 52, 3) := by decide +kernel
theorem dX1_bring_12 : decode cX1_bring 12 = .ok (.iload_n 2, 1) := by decide +kernel
theorem dX1_bring_13 : decode cX1_bring 13 = .ok (.iadd, 1) := by decide +kernel
theorem dX1_bring_14 : decode cX1_bring 14 = .ok (.invokestatic 72, 3) := by decide +kernel
theorem dX1_bring_17 : decode cX1_bring 17 = .ok (.putfield 52, 3) := by decide +kernel
theorem dX1_bring_20 : decode cX1_bring 20 = .ok (.return_, 1) := by decide +kernel
theorem dX1_bring_21 : decode cX1_bring 21 = .ok (.aload_n 0, 1) := by decide +kernel
theorem dX1_bring_22 : decode cX1_bring 22 = .ok (.getfield 15, 3) := by decide +kernel
theorem dX1_bring_25 : decode cX1_bring 25 = .ok (.iload_n 1, 1) := by decide +kernel
theorem dX1_bring_26 : decode cX1_bring 26 = .ok (.iaload, 1) := by decide +kernel
theorem dX1_bring_27 : decode cX1_bring 27 = .ok (.iload_n 2, 1) := by decide +kernel
theorem dX1_bring_28 : decode cX1_bring 28 = .ok (.iadd, 1) := by decide +kernel
theorem dX1_bring_29 : decode cX1_bring 29 = .ok (.istore_n 3, 1) := by decide +kernel
theorem dX1_bring_30 : decode cX1_bring 30 = .ok (.aload_n 0, 1) := by decide +kernel
theorem dX1_bring_31 : decode cX1_bring 31 = .ok (.getfield 15, 3) := by decide +kernel
theorem dX1_bring_34 : decode cX1_bring 34 = .ok (.iload_n 1, 1) := by decide +kernel
theorem dX1_bring_35 : decode cX1_bring 35 = .ok (.sipush 9999, 3) := by decide +kernel
theorem dX1_bring_38 : decode cX1_bring 38 = .ok (.iload_n 3, 1) := by decide +kernel
theorem dX1_bring_39 : decode cX1_bring 39 = .ok (.invokestatic 72, 3) := by decide +kernel
theorem dX1_bring_42 : decode cX1_bring 42 = .ok (.iastore, 1) := by decide +kernel
theorem dX1_bring_43 : decode cX1_bring 43 = .ok (.aload_n 0, 1) := by decide +kernel
theorem dX1_bring_44 : decode cX1_bring 44 = .ok (.iload_n 3, 1) := by decide +kernel
theorem dX1_bring_45 : decode cX1_bring 45 = .ok (.aload_n 0, 1) := by decide +kernel
theorem dX1_bring_46 : decode cX1_bring 46 = .ok (.getfield 15, 3) := by decide +kernel
theorem dX1_bring_49 : decode cX1_bring 49 = .ok (.iload_n 1, 1) := by decide +kernel
theorem dX1_bring_50 : decode cX1_bring 50 = .ok (.iaload, 1) := by decide +kernel
theorem dX1_bring_51 : decode cX1_bring 51 = .ok (.isub, 1) := by decide +kernel
theorem dX1_bring_52 : decode cX1_bring 52 = .ok (.invokevirtual 78, 3) := by decide +kernel
theorem dX1_bring_55 : decode cX1_bring 55 = .ok (.return_, 1) := by decide +kernel
theorem dX1_lose_0 : decode cX1_lose 0 = .ok (.aload_n 0, 1) := by decide +kernel
theorem dX1_lose_1 : decode cX1_lose 1 = .ok (.ldc 71, 2) := by decide +kernel
theorem dX1_lose_3 : decode cX1_lose 3 = .ok (.aload_n 0, 1) := by decide +kernel
theorem dX1_lose_4 : decode cX1_lose 4 = .ok (.getfield 55, 3) := by decide +kernel
theorem dX1_lose_7 : decode cX1_lose 7 = .ok (.iload_n 1, 1) := by decide +kernel
theorem dX1_lose_8 : decode cX1_lose 8 = .ok (.iadd, 1) := by decide +kernel
theorem dX1_lose_9 : decode cX1_lose 9 = .ok (.invokestatic 72, 3) := by decide +kernel
theorem dX1_lose_12 : decode cX1_lose 12 = .ok (.putfield 55, 3) := by decide +kernel
theorem dX1_lose_15 : decode cX1_lose 15 = .ok (.return_, 1) := by decide +kernel
theorem dX1_passHour_0 : decode cX1_passHour 0 = .ok (.iconst 0, 1) := by decide +kernel
theorem dX1_passHour_1 : decode cX1_passHour 1 = .ok (.istore_n 2, 1) := by decide +kernel
theorem dX1_passHour_2 : decode cX1_passHour 2 = .ok (.aload_n 0, 1) := by decide +kernel
theorem dX1_passHour_3 : decode cX1_passHour 3 = .ok (.iconst 0, 1) := by decide +kernel
theorem dX1_passHour_4 : decode cX1_passHour 4 = .ok (.aload_n 0, 1) := by decide +kernel
theorem dX1_passHour_5 : decode cX1_passHour 5 = .ok (.getfield 33, 3) := by decide +kernel
theorem dX1_passHour_8 : decode cX1_passHour 8 = .ok (.invokevirtual 82, 3) := by decide +kernel
theorem dX1_passHour_11 : decode cX1_passHour 11 = .ok (.iload_n 1, 1) := by decide +kernel
theorem dX1_passHour_12 : decode cX1_passHour 12 = .ok (.istore_n 3, 1) := by decide +kernel
theorem dX1_passHour_13 : decode cX1_passHour 13 = .ok (.iload_n 3, 1) := by decide +kernel
theorem dX1_passHour_14 : decode cX1_passHour 14 = .ok (.ifCond .lt 120, 3) := by decide +kernel
theorem dX1_passHour_17 : decode cX1_passHour 17 = .ok (.aload_n 0, 1) := by decide +kernel
theorem dX1_passHour_18 : decode cX1_passHour 18 = .ok (.getfield 15, 3) := by decide +kernel
theorem dX1_passHour_21 : decode cX1_passHour 21 = .ok (.iload_n 3, 1) := by decide +kernel
theorem dX1_passHour_22 : decode cX1_passHour 22 = .ok (.iaload, 1) := by decide +kernel
theorem dX1_passHour_23 : decode cX1_passHour 23 = .ok (.aload_n 0, 1) := by decide +kernel
theorem dX1_passHour_24 : decode cX1_passHour 24 = .ok (.iload_n 3, 1) := by decide +kernel
theorem dX1_passHour_25 : decode cX1_passHour 25 = .ok (.invokevirtual 86, 3) := by decide +kernel
theorem dX1_passHour_28 : decode cX1_passHour 28 = .ok (.isub, 1) := by decide +kernel
theorem dX1_passHour_29 : decode cX1_passHour 29 = .ok (.istore 4, 2) := by decide +kernel
theorem dX1_passHour_31 : decode cX1_passHour 31 = .ok (.iload 4, 2) := by decide +kernel
theorem dX1_passHour_33 : decode cX1_passHour 33 = .ok (.ifCond .ge 32, 3) := by decide +kernel
theorem dX1_passHour_36 : decode cX1_passHour 36 = .ok (.iconst 0, 1) := by decide +kernel
theorem dX1_passHour_37 : decode cX1_passHour 37 = .ok (.istore 4, 2) := by decide +kernel
theorem dX1_passHour_39 : decode cX1_passHour 39 = .ok (.iload_n 2, 1) := by decide +kernel
theorem dX1_passHour_40 : decode cX1_passHour 40 = .ok (.iconst 1, 1) := by decide +kernel
theorem dX1_passHour_41 : decode cX1_passHour 41 = .ok (.iload_n 3, 1) := by decide +kernel
theorem dX1_passHour_42 : decode cX1_passHour 42 = .ok (.ishl, 1) := by decide +kernel
theorem dX1_passHour_43 : decode cX1_passHour 43 = .ok (.ior, 1) := by decide +kernel
theorem dX1_passHour_44 : decode cX1_passHour 44 = .ok (.istore_n 2, 1) := by decide +kernel
theorem dX1_passHour_45 : decode cX1_passHour 45 = .ok (.aload_n 0, 1) := by decide +kernel
theorem dX1_passHour_46 : decode cX1_passHour 46 = .ok (.getfield 27, 3) := by decide +kernel
theorem dX1_passHour_49 : decode cX1_passHour 49 = .ok (.iload_n 3, 1) := by decide +kernel
theorem dX1_passHour_50 : decode cX1_passHour 50 = .ok (.sipush 9999, 3) := by decide +kernel
theorem dX1_passHour_53 : decode cX1_passHour 53 = .ok (.aload_n 0, 1) := by decide +kernel
theorem dX1_passHour_54 : decode cX1_passHour 54 = .ok (.getfield 27, 3) := by decide +kernel
theorem dX1_passHour_57 : decode cX1_passHour 57 = .ok (.iload_n 3, 1) := by decide +kernel
theorem dX1_passHour_58 : decode cX1_passHour 58 = .ok (.iaload, 1) := by decide +kernel
theorem dX1_passHour_59 : decode cX1_passHour 59 = .ok (.iconst 1, 1) := by decide +kernel
theorem dX1_passHour_60 : decode cX1_passHour 60 = .ok (.iadd, 1) := by decide +kernel
theorem dX1_passHour_61 : decode cX1_passHour 61 = .ok (.invokestatic 72, 3) := by decide +kernel
theorem dX1_passHour_64 : decode cX1_passHour 64 = .ok (.iastore, 1) := by decide +kernel
theorem dX1_passHour_65 : decode cX1_passHour 65 = .ok (.aload_n 0, 1) := by decide +kernel
theorem dX1_passHour_66 : decode cX1_passHour 66 = .ok (.getfield 15, 3) := by decide +kernel
theorem dX1_passHour_69 : decode cX1_passHour 69 = .ok (.iload_n 3, 1) := by decide +kernel
theorem dX1_passHour_70 : decode cX1_passHour 70 = .ok (.iload 4, 2) := by decide +kernel
theorem dX1_passHour_72 : decode cX1_passHour 72 = .ok (.aload_n 0, 1) := by decide +kernel
theorem dX1_passHour_73 : decode cX1_passHour 73 = .ok (.iload_n 3, 1) := by decide +kernel
theorem dX1_passHour_74 : decode cX1_passHour 74 = .ok (.invokevirtual 90, 3) := by decide +kernel
theorem dX1_passHour_77 : decode cX1_passHour 77 = .ok (.invokestatic 72, 3) := by decide +kernel
theorem dX1_passHour_80 : decode cX1_passHour 80 = .ok (.iastore, 1) := by decide +kernel
theorem dX1_passHour_81 : decode cX1_passHour 81 = .ok (.iload 4, 2) := by decide +kernel
theorem dX1_passHour_83 : decode cX1_passHour 83 = .ok (.aload_n 0, 1) := by decide +kernel
theorem dX1_passHour_84 : decode cX1_passHour 84 = .ok (.getfield 15, 3) := by decide +kernel
theorem dX1_passHour_87 : decode cX1_passHour 87 = .ok (.iload_n 3, 1) := by decide +kernel
theorem dX1_passHour_88 : decode cX1_passHour 88 = .ok (.iaload, 1) := by decide +kernel
theorem dX1_passHour_89 : decode cX1_passHour 89 = .ok (.isub, 1) := by decide +kernel
theorem dX1_passHour_90 : decode cX1_passHour 90 = .ok (.istore 5, 2) := by decide +kernel
theorem dX1_passHour_92 : decode cX1_passHour 92 = .ok (.iload 5, 2) := by decide +kernel
theorem dX1_passHour_94 : decode cX1_passHour 94 = .ok (.aload_n 0, 1) := by decide +kernel
theorem dX1_passHour_95 : decode cX1_passHour 95 = .ok (.getfield 9, 3) := by decide +kernel
theorem dX1_passHour_98 : decode cX1_passHour 98 = .ok (.iload_n 3, 1) := by decide +kernel
theorem dX1_passHour_99 : decode cX1_passHour 99 = .ok (.iaload, 1) := by decide +kernel
theorem dX1_passHour_100 : decode cX1_passHour 100 = .ok (.invokestatic 93, 3) := by decide +kernel
theorem dX1_passHour_103 : decode cX1_passHour 103 = .ok (.invokestatic 72, 3) := by decide +kernel
theorem dX1_passHour_106 : decode cX1_passHour 106 = .ok (.istore 6, 2) := by decide +kernel
theorem dX1_passHour_108 : decode cX1_passHour 108 = .ok (.aload_n 0, 1) := by decide +kernel
theorem dX1_passHour_109 : decode cX1_passHour 109 = .ok (.iload 6, 2) := by decide +kernel
theorem dX1_passHour_111 : decode cX1_passHour 111 = .ok (.invokevirtual 78, 3) := by decide +kernel
theorem dX1_passHour_114 : decode cX1_passHour 114 = .ok (.aload_n 0, 1) := by decide +kernel
theorem dX1_passHour_115 : decode cX1_passHour 115 = .ok (.aload_n 0, 1) := by decide +kernel
theorem dX1_passHour_116 : decode cX1_passHour 116 = .ok (.iload_n 3, 1) := by decide +kernel
theorem dX1_passHour_117 : decode cX1_passHour 117 = .ok (.invokevirtual 96, 3) := by decide +kernel
theorem dX1_passHour_120 : decode cX1_passHour 120 = .ok (.iload 5, 2) := by decide +kernel
theorem dX1_passHour_122 : decode cX1_passHour 122 = .ok (.iload 6, 2) := by decide +kernel
theorem dX1_passHour_124 : decode cX1_passHour 124 = .ok (.isub, 1) := by decide +kernel
theorem dX1_passHour_125 : decode cX1_passHour 125 = .ok (.invokevirtual 82, 3) := by decide +kernel
theorem dX1_passHour_128 : decode cX1_passHour 128 = .ok (.iinc 3 (-1), 3) := by decide +kernel
theorem dX1_passHour_131 : decode cX1_passHour 131 = .ok (.goto (-118), 3) := by decide +kernel
theorem dX1_passHour_134 : decode cX1_passHour 134 = .ok (.aload_n 0, 1) := by decide +kernel
theorem dX1_passHour_135 : decode cX1_passHour 135 = .ok (.ldc 99, 2) := by decide +kernel
theorem dX1_passHour_137 : decode cX1_passHour 137 = .ok (.aload_n 0, 1) := by decide +kernel
theorem dX1_passHour_138 : decode cX1_passHour 138 = .ok (.getfield 58, 3) := by decide +kernel
theorem dX1_passHour_141 : decode cX1_passHour 141 = .ok (.iconst 1, 1) := by decide +kernel
theorem dX1_passHour_142 : decode cX1_passHour 142 = .ok (.iadd, 1) := by decide +kernel
theorem dX1_passHour_143 : decode cX1_passHour 143 = .ok (.invokestatic 72, 3) := by decide +kernel
theorem dX1_passHour_146 : decode cX1_passHour 146 = .ok (.putfield 58, 3) := by decide +kernel
theorem dX1_passHour_149 : decode cX1_passHour 149 = .ok (.iload_n 2, 1) := by decide +kernel
theorem dX1_passHour_150 : decode cX1_passHour 150 = .ok (.ireturn, 1) := by decide +kernel
theorem dX1_passHours_0 : decode cX1_passHours 0 = .ok (.iconst 0, 1) := by decide +kernel
theorem dX1_passHours_1 : decode cX1_passHours 1 = .ok (.istore_n 3, 1) := by decide +kernel
theorem dX1_passHours_2 : decode cX1_passHours 2 = .ok (.iconst 0, 1) := by decide +kernel
theorem dX1_passHours_3 : decode cX1_passHours 3 = .ok (.istore 4, 2) := by decide +kernel
theorem dX1_passHours_5 : decode cX1_passHours 5 = .ok (.iload 4, 2) := by decide +kernel
theorem dX1_passHours_7 : decode cX1_passHours 7 = .ok (.iload_n 1, 1) := by decide +kernel
theorem dX1_passHours_8 : decode cX1_passHours 8 = .ok (.if_icmp .ge 17, 3) := by decide +kernel
theorem dX1_passHours_11 : decode cX1_passHours 11 = .ok (.iload_n 3, 1) := by decide +kernel
theorem dX1_passHours_12 : decode cX1_passHours 12 = .ok (.aload_n 0, 1) := by decide +kernel
theorem dX1_passHours_13 : decode cX1_passHours 13 = .ok (.iload_n 2, 1) := by decide +kernel
theorem dX1_passHours_14 : decode cX1_passHours 14 = .ok (.invokevirtual 100, 3) := by decide +kernel
theorem dX1_passHours_17 : decode cX1_passHours 17 = .ok (.ior, 1) := by decide +kernel
theorem dX1_passHours_18 : decode cX1_passHours 18 = .ok (.istore_n 3, 1) := by decide +kernel
theorem dX1_passHours_19 : decode cX1_passHours 19 = .ok (.iinc 4 1, 3) := by decide +kernel
theorem dX1_passHours_22 : decode cX1_passHours 22 = .ok (.goto (-17), 3) := by decide +kernel
theorem dX1_passHours_25 : decode cX1_passHours 25 = .ok (.iload_n 3, 1) := by decide +kernel
theorem dX1_passHours_26 : decode cX1_passHours 26 = .ok (.ireturn, 1) := by decide +kernel
theorem dX1_staysWet_0 : decode cX1_staysWet 0 = .ok (.iconst 0, 1) := by decide +kernel
theorem dX1_staysWet_1 : decode cX1_staysWet 1 = .ok (.istore 4, 2) := by decide +kernel
theorem dX1_staysWet_3 : decode cX1_staysWet 3 = .ok (.iload 4, 2) := by decide +kernel
theorem dX1_staysWet_5 : decode cX1_staysWet 5 = .ok (.iload_n 3, 1) := by decide +kernel
theorem dX1_staysWet_6 : decode cX1_staysWet 6 = .ok (.if_icmp .ge 21, 3) := by decide +kernel
theorem dX1_staysWet_9 : decode cX1_staysWet 9 = .ok (.aload_n 0, 1) := by decide +kernel
theorem dX1_staysWet_10 : decode cX1_staysWet 10 = .ok (.iload_n 2, 1) := by decide +kernel
theorem dX1_staysWet_11 : decode cX1_staysWet 11 = .ok (.invokevirtual 100, 3) := by decide +kernel
theorem dX1_staysWet_14 : decode cX1_staysWet 14 = .ok (.iload_n 1, 1) := by decide +kernel
theorem dX1_staysWet_15 : decode cX1_staysWet 15 = .ok (.iand, 1) := by decide +kernel
theorem dX1_staysWet_16 : decode cX1_staysWet 16 = .ok (.ifCond .eq 5, 3) := by decide +kernel
theorem dX1_staysWet_19 : decode cX1_staysWet 19 = .ok (.iconst 0, 1) := by decide +kernel
theorem dX1_staysWet_20 : decode cX1_staysWet 20 = .ok (.ireturn, 1) := by decide +kernel
theorem dX1_staysWet_21 : decode cX1_staysWet 21 = .ok (.iinc 4 1, 3) := by decide +kernel
theorem dX1_staysWet_24 : decode cX1_staysWet 24 = .ok (.goto (-21), 3) := by decide +kernel
theorem dX1_staysWet_27 : decode cX1_staysWet 27 = .ok (.iconst 1, 1) := by decide +kernel
theorem dX1_staysWet_28 : decode cX1_staysWet 28 = .ok (.ireturn, 1) := by decide +kernel
theorem dX1_waterOfAll_0 : decode cX1_waterOfAll 0 = .ok (.iconst 0, 1) := by decide +kernel
theorem dX1_waterOfAll_1 : decode cX1_waterOfAll 1 = .ok (.istore_n 1, 1) := by decide +kernel
theorem dX1_waterOfAll_2 : decode cX1_waterOfAll 2 = .ok (.iconst 0, 1) := by decide +kernel
theorem dX1_waterOfAll_3 : decode cX1_waterOfAll 3 = .ok (.istore_n 2, 1) := by decide +kernel
theorem dX1_waterOfAll_4 : decode cX1_waterOfAll 4 = .ok (.iload_n 2, 1) := by decide +kernel
theorem dX1_waterOfAll_5 : decode cX1_waterOfAll 5 = .ok (.bipush 11, 2) := by decide +kernel
theorem dX1_waterOfAll_7 : decode cX1_waterOfAll 7 = .ok (.if_icmp .ge 18, 3) := by decide +kernel
theorem dX1_waterOfAll_10 : decode cX1_waterOfAll 10 = .ok (.iload_n 1, 1) := by decide +kernel
theorem dX1_waterOfAll_11 : decode cX1_waterOfAll 11 = .ok (.aload_n 0, 1) := by decide +kernel
theorem dX1_waterOfAll_12 : decode cX1_waterOfAll 12 = .ok (.getfield 15, 3) := by decide +kernel
theorem dX1_waterOfAll_15 : decode cX1_waterOfAll 15 = .ok (.iload_n 2, 1) := by decide +kernel
theorem dX1_waterOfAll_16 : decode cX1_waterOfAll 16 = .ok (.iaload, 1) := by decide +kernel
theorem dX1_waterOfAll_17 : decode cX1_waterOfAll 17 = .ok (.iadd, 1) := by decide +kernel
theorem dX1_waterOfAll_18 : decode cX1_waterOfAll 18 = .ok (.istore_n 1, 1) := by decide +kernel
theorem dX1_waterOfAll_19 : decode cX1_waterOfAll 19 = .ok (.iinc 2 1, 3) := by decide +kernel
theorem dX1_waterOfAll_22 : decode cX1_waterOfAll 22 = .ok (.goto (-18), 3) := by decide +kernel
theorem dX1_waterOfAll_25 : decode cX1_waterOfAll 25 = .ok (.iload_n 1, 1) := by decide +kernel
theorem dX1_waterOfAll_26 : decode cX1_waterOfAll 26 = .ok (.ireturn, 1) := by decide +kernel
theorem dX1_everDry_0 : decode cX1_everDry 0 = .ok (.iconst 0, 1) := by decide +kernel
theorem dX1_everDry_1 : decode cX1_everDry 1 = .ok (.istore_n 1, 1) := by decide +kernel
theorem dX1_everDry_2 : decode cX1_everDry 2 = .ok (.iconst 0, 1) := by decide +kernel
theorem dX1_everDry_3 : decode cX1_everDry 3 = .ok (.istore_n 2, 1) := by decide +kernel
theorem dX1_everDry_4 : decode cX1_everDry 4 = .ok (.iload_n 2, 1) := by decide +kernel
theorem dX1_everDry_5 : decode cX1_everDry 5 = .ok (.bipush 11, 2) := by decide +kernel
theorem dX1_everDry_7 : decode cX1_everDry 7 = .ok (.if_icmp .ge 24, 3) := by decide +kernel
theorem dX1_everDry_10 : decode cX1_everDry 10 = .ok (.aload_n 0, 1) := by decide +kernel
theorem dX1_everDry_11 : decode cX1_everDry 11 = .ok (.getfield 27, 3) := by decide +kernel
theorem dX1_everDry_14 : decode cX1_everDry 14 = .ok (.iload_n 2, 1) := by decide +kernel
theorem dX1_everDry_15 : decode cX1_everDry 15 = .ok (.iaload, 1) := by decide +kernel
theorem dX1_everDry_16 : decode cX1_everDry 16 = .ok (.ifCond .le 9, 3) := by decide +kernel
theorem dX1_everDry_19 : decode cX1_everDry 19 = .ok (.iload_n 1, 1) := by decide +kernel
theorem dX1_everDry_20 : decode cX1_everDry 20 = .ok (.iconst 1, 1) := by decide +kernel
theorem dX1_everDry_21 : decode cX1_everDry 21 = .ok (.iload_n 2, 1) := by decide +kernel
theorem dX1_everDry_22 : decode cX1_everDry 22 = .ok (.ishl, 1) := by decide +kernel
theorem dX1_everDry_23 : decode cX1_everDry 23 = .ok (.ior, 1) := by decide +kernel
theorem dX1_everDry_24 : decode cX1_everDry 24 = .ok (.istore_n 1, 1) := by decide +kernel
theorem dX1_everDry_25 : decode cX1_everDry 25 = .ok (.iinc 2 1, 3) := by decide +kernel
theorem dX1_everDry_28 : decode cX1_everDry 28 = .ok (.goto (-24), 3) := by decide +kernel
theorem dX1_everDry_31 : decode cX1_everDry 31 = .ok (.iload_n 1, 1) := by decide +kernel
theorem dX1_everDry_32 : decode cX1_everDry 32 = .ok (.ireturn, 1) := by decide +kernel
theorem dX1_turnedSpouts_0 : decode cX1_turnedSpouts 0 = .ok (.iconst 0, 1) := by decide +kernel
theorem dX1_turnedSpouts_1 : decode cX1_turnedSpouts 1 = .ok (.istore_n 1, 1) := by decide +kernel
theorem dX1_turnedSpouts_2 : decode cX1_turnedSpouts 2 = .ok (.iconst 0, 1) := by decide +kernel
theorem dX1_turnedSpouts_3 : decode cX1_turnedSpouts 3 = .ok (.istore_n 2, 1) := by decide +kernel
theorem dX1_turnedSpouts_4 : decode cX1_turnedSpouts 4 = .ok (.iload_n 2, 1) := by decide +kernel
theorem dX1_turnedSpouts_5 : decode cX1_turnedSpouts 5 = .ok (.bipush 11, 2) := by decide +kernel
theorem dX1_turnedSpouts_7 : decode cX1_turnedSpouts 7 = .ok (.if_icmp .ge 20, 3) := by decide +kernel
theorem dX1_turnedSpouts_10 : decode cX1_turnedSpouts 10 = .ok (.iload_n 1, 1) := by decide +kernel
theorem dX1_turnedSpouts_11 : decode cX1_turnedSpouts 11 = .ok (.aload_n 0, 1) := by decide +kernel
theorem dX1_turnedSpouts_12 : decode cX1_turnedSpouts 12 = .ok (.getfield 24, 3) := by decide +kernel
theorem dX1_turnedSpouts_15 : decode cX1_turnedSpouts 15 = .ok (.iload_n 2, 1) := by decide +kernel
theorem dX1_turnedSpouts_16 : decode cX1_turnedSpouts 16 = .ok (.iaload, 1) := by decide +kernel
theorem dX1_turnedSpouts_17 : decode cX1_turnedSpouts 17 = .ok (.iload_n 2, 1) := by decide +kernel
theorem dX1_turnedSpouts_18 : decode cX1_turnedSpouts 18 = .ok (.ishl, 1) := by decide +kernel
theorem dX1_turnedSpouts_19 : decode cX1_turnedSpouts 19 = .ok (.ior, 1) := by decide +kernel
theorem dX1_turnedSpouts_20 : decode cX1_turnedSpouts 20 = .ok (.istore_n 1, 1) := by decide +kernel
theorem dX1_turnedSpouts_21 : decode cX1_turnedSpouts 21 = .ok (.iinc 2 1, 3) := by decide +kernel
theorem dX1_turnedSpouts_24 : decode cX1_turnedSpouts 24 = .ok (.goto (-20), 3) := by decide +kernel
theorem dX1_turnedSpouts_27 : decode cX1_turnedSpouts 27 = .ok (.iload_n 1, 1) := by decide +kernel
theorem dX1_turnedSpouts_28 : decode cX1_turnedSpouts 28 = .ok (.ireturn, 1) := by decide +kernel
theorem dX1_housesOfOtherKinds_0 : decode cX1_housesOfOtherKinds 0 = .ok (.iconst 0, 1) := by decide +kernel
theorem dX1_housesOfOtherKinds_1 : decode cX1_housesOfOtherKinds 1 = .ok (.istore_n 1, 1) := by decide +kernel
theorem dX1_housesOfOtherKinds_2 : decode cX1_housesOfOtherKinds 2 = .ok (.iconst 0, 1) := by decide +kernel
theorem dX1_housesOfOtherKinds_3 : decode cX1_housesOfOtherKinds 3 = .ok (.istore_n 2, 1) := by decide +kernel
theorem dX1_housesOfOtherKinds_4 : decode cX1_housesOfOtherKinds 4 = .ok (.iload_n 2, 1) := by decide +kernel
theorem dX1_housesOfOtherKinds_5 : decode cX1_housesOfOtherKinds 5 = .ok (.bipush 11, 2) := by decide +kernel
theorem dX1_housesOfOtherKinds_7 : decode cX1_housesOfOtherKinds 7 = .ok (.if_icmp .ge 21, 3) := by decide +kernel
theorem dX1_housesOfOtherKinds_10 : decode cX1_housesOfOtherKinds 10 = .ok (.aload_n 0, 1) := by decide +kernel
theorem dX1_housesOfOtherKinds_11 : decode cX1_housesOfOtherKinds 11 = .ok (.getfield 9, 3) := by decide +kernel
theorem dX1_housesOfOtherKinds_14 : decode cX1_housesOfOtherKinds 14 = .ok (.iload_n 2, 1) := by decide +kernel
theorem dX1_housesOfOtherKinds_15 : decode cX1_housesOfOtherKinds 15 = .ok (.iaload, 1) := by decide +kernel
theorem dX1_housesOfOtherKinds_16 : decode cX1_housesOfOtherKinds 16 = .ok (.ifCond .eq 6, 3) := by decide +kernel
theorem dX1_housesOfOtherKinds_19 : decode cX1_housesOfOtherKinds 19 = .ok (.iinc 1 1, 3) := by decide +kernel
theorem dX1_housesOfOtherKinds_22 : decode cX1_housesOfOtherKinds 22 = .ok (.iinc 2 1, 3) := by decide +kernel
theorem dX1_housesOfOtherKinds_25 : decode cX1_housesOfOtherKinds 25 = .ok (.goto (-21), 3) := by decide +kernel
theorem dX1_housesOfOtherKinds_28 : decode cX1_housesOfOtherKinds 28 = .ok (.iload_n 1, 1) := by decide +kernel
theorem dX1_housesOfOtherKinds_29 : decode cX1_housesOfOtherKinds 29 = .ok (.ireturn, 1) := by decide +kernel
theorem dX1_spotsHeld_0 : decode cX1_spotsHeld 0 = .ok (.iconst 0, 1) := by decide +kernel
theorem dX1_spotsHeld_1 : decode cX1_spotsHeld 1 = .ok (.istore_n 1, 1) := by decide +kernel
theorem dX1_spotsHeld_2 : decode cX1_spotsHeld 2 = .ok (.iconst 0, 1) := by decide +kernel
theorem dX1_spotsHeld_3 : decode cX1_spotsHeld 3 = .ok (.istore_n 2, 1) := by decide +kernel
theorem dX1_spotsHeld_4 : decode cX1_spotsHeld 4 = .ok (.iload_n 2, 1) := by decide +kernel
theorem dX1_spotsHeld_5 : decode cX1_spotsHeld 5 = .ok (.bipush 10, 2) := by decide +kernel
theorem dX1_spotsHeld_7 : decode cX1_spotsHeld 7 = .ok (.if_icmp .ge 22, 3) := by decide +kernel
theorem dX1_spotsHeld_10 : decode cX1_spotsHeld 10 = .ok (.aload_n 0, 1) := by decide +kernel
theorem dX1_spotsHeld_11 : decode cX1_spotsHeld 11 = .ok (.getfield 30, 3) := by decide +kernel
theorem dX1_spotsHeld_14 : decode cX1_spotsHeld 14 = .ok (.iload_n 2, 1) := by decide +kernel
theorem dX1_spotsHeld_15 : decode cX1_spotsHeld 15 = .ok (.iaload, 1) := by decide +kernel
theorem dX1_spotsHeld_16 : decode cX1_spotsHeld 16 = .ok (.iconst (-1), 1) := by decide +kernel
theorem dX1_spotsHeld_17 : decode cX1_spotsHeld 17 = .ok (.if_icmp .eq 6, 3) := by decide +kernel
theorem dX1_spotsHeld_20 : decode cX1_spotsHeld 20 = .ok (.iinc 1 1, 3) := by decide +kernel
theorem dX1_spotsHeld_23 : decode cX1_spotsHeld 23 = .ok (.iinc 2 1, 3) := by decide +kernel
theorem dX1_spotsHeld_26 : decode cX1_spotsHeld 26 = .ok (.goto (-22), 3) := by decide +kernel
theorem dX1_spotsHeld_29 : decode cX1_spotsHeld 29 = .ok (.iload_n 1, 1) := by decide +kernel
theorem dX1_spotsHeld_30 : decode cX1_spotsHeld 30 = .ok (.ireturn, 1) := by decide +kernel
theorem dX2_init_0 : decode cX2_init 0 = .ok (.aload_n 0, 1) := by decide +kernel
theorem dX2_init_1 : decode cX2_init 1 = .ok (.invokespecial 1, 3) := by decide +kernel
theorem dX2_init_4 : decode cX2_init 4 = .ok (.aload_n 0, 1) := by decide +kernel
theorem dX2_init_5 : decode cX2_init 5 = .ok (.bipush 40, 2) := by decide +kernel
theorem dX2_init_7 : decode cX2_init 7 = .ok (.newarray .int, 2) := by decide +kernel
theorem dX2_init_9 : decode cX2_init 9 = .ok (.putfield 9, 3) := by decide +kernel
theorem dX2_init_12 : decode cX2_init 12 = .ok (.return_, 1) := by decide +kernel
theorem dX2_isMissing_0 : decode cX2_isMissing 0 = .ok (.aload_n 0, 1) := by decide +kernel
theorem dX2_isMissing_1 : decode cX2_isMissing 1 = .ok (.getfield 13, 3) := by decide +kernel
theorem dX2_isMissing_4 : decode cX2_isMissing 4 = .ok (.ifCond .ne 7, 3) := by decide +kernel
theorem dX2_isMissing_7 : decode cX2_isMissing 7 = .ok (.iconst 1, 1) := by decide +kernel
theorem dX2_isMissing_8 : decode cX2_isMissing 8 = .ok (.goto 4, 3) := by decide +kernel
theorem dX2_isMissing_11 : decode cX2_isMissing 11 = .ok (.iconst 0, 1) := by decide +kernel
theorem dX2_isMissing_12 : decode cX2_isMissing 12 = .ok (.ireturn, 1) := by decide +kernel
theorem dX2_begin_0 : decode cX2_begin 0 = .ok (.aload_n 0, 1) := by decide +kernel
theorem dX2_begin_1 : decode cX2_begin 1 = .ok (.iload_n 1, 1) := by decide +kernel
theorem dX2_begin_2 : decode cX2_begin 2 = .ok (.putfield 13, 3) := by decide +kernel
theorem dX2_begin_5 : decode cX2_begin 5 = .ok (.aload_n 0, 1) := by decide +kernel
theorem dX2_begin_6 : decode cX2_begin 6 = .ok (.iload_n 2, 1) := by decide +kernel
theorem dX2_begin_7 : decode cX2_begin 7 = .ok (.putfield 17, 3) := by decide +kernel
theorem dX2_begin_10 : decode cX2_begin 10 = .ok (.aload_n 0, 1) := by decide +kernel
theorem dX2_begin_11 : decode cX2_begin 11 = .ok (.getfield 9, 3) := by decide +kernel
theorem dX2_begin_14 : decode cX2_begin 14 = .ok (.iconst 0, 1) := by decide +kernel
theorem dX2_begin_15 : decode cX2_begin 15 = .ok (.invokestatic 20, 3) := by decide +kernel
theorem dX2_begin_18 : decode cX2_begin 18 = .ok (.return_, 1) := by decide +kernel
theorem dX2_put_0 : decode cX2_put 0 = .ok (.aload_n 0, 1) := by decide +kernel
theorem dX2_put_1 : decode cX2_put 1 = .ok (.getfield 9, 3) := by decide +kernel
theorem dX2_put_4 : decode cX2_put 4 = .ok (.iload_n 1, 1) := by decide +kernel
theorem dX2_put_5 : decode cX2_put 5 = .ok (.aload_n 0, 1) := by decide +kernel
theorem dX2_put_6 : decode cX2_put 6 = .ok (.getfield 13, 3) := by decide +kernel
theorem dX2_put_9 : decode cX2_put 9 = .ok (.bipush 8, 2) := by decide +kernel
theorem dX2_put_11 : decode cX2_put 11 = .ok (.if_icmp .ne 8, 3) := by decide +kernel
theorem dX2_put_14 : decode cX2_put 14 = .ok (.iload_n 2, 1) := by decide +kernel
theorem dX2_put_15 : decode cX2_put 15 = .ok (.i2b, 1) := by decide +kernel
theorem dX2_put_16 : decode cX2_put 16 = .ok (.goto 18, 3) := by decide +kernel
theorem dX2_put_19 : decode cX2_put 19 = .ok (.aload_n 0, 1) := by decide +kernel
theorem dX2_put_20 : decode cX2_put 20 = .ok (.getfield 13, 3) := by decide +kernel
theorem dX2_put_23 : decode cX2_put 23 = .ok (.bipush 16, 2) := by decide +kernel
theorem dX2_put_25 : decode cX2_put 25 = .ok (.if_icmp .ne 8, 3) := by decide +kernel
theorem dX2_put_28 : decode cX2_put 28 = .ok (.iload_n 2, 1) := by decide +kernel
theorem dX2_put_29 : decode cX2_put 29 = .ok (.i2s, 1) := by decide +kernel
theorem dX2_put_30 : decode cX2_put 30 = .ok (.goto 4, 3) := by decide +kernel
theorem dX2_put_33 : decode cX2_put 33 = .ok (.iload_n 2, 1) := by decide +kernel
theorem dX2_put_34 : decode cX2_put 34 = .ok (.iastore, 1) := by decide +kernel
theorem dX2_put_35 : decode cX2_put 35 = .ok (.return_, 1) := by decide +kernel
theorem dX2_hasRun_0 : decode cX2_hasRun 0 = .ok (.iload_n 1, 1) := by decide +kernel
theorem dX2_hasRun_1 : decode cX2_hasRun 1 = .ok (.ifCond .lt 29, 3) := by decide +kernel
theorem dX2_hasRun_4 : decode cX2_hasRun 4 = .ok (.iload_n 2, 1) := by decide +kernel
theorem dX2_hasRun_5 : decode cX2_hasRun 5 = .ok (.ifCond .lt 25, 3) := by decide +kernel
theorem dX2_hasRun_8 : decode cX2_hasRun 8 = .ok (.iload_n 1, 1) := by decide +kernel
theorem dX2_hasRun_9 : decode cX2_hasRun 9 = .ok (.aload_n 0, 1) := by decide +kernel
theorem dX2_hasRun_10 : decode cX2_hasRun 10 = .ok (.getfield 17, 3) := by decide +kernel
theorem dX2_hasRun_13 : decode cX2_hasRun 13 = .ok (.if_icmp .gt 17, 3) := by decide +kernel
theorem dX2_hasRun_16 : decode cX2_hasRun 16 = .ok (.iload_n 2, 1) := by decide +kernel
theorem dX2_hasRun_17 : decode cX2_hasRun 17 = .ok (.aload_n 0, 1) := by decide +kernel
theorem dX2_hasRun_18 : decode cX2_hasRun 18 = .ok (.getfield 17, 3) := by decide +kernel
theorem dX2_hasRun_21 : decode cX2_hasRun 21 = .ok (.iload_n 1, 1) := by decide +kernel
theorem dX2_hasRun_22 : decode cX2_hasRun 22 = .ok (.isub, 1) := by decide +kernel
theorem dX2_hasRun_23 : decode cX2_hasRun 23 = .ok (.if_icmp .gt 7, 3) := by decide +kernel
theorem dX2_hasRun_26 : decode cX2_hasRun 26 = .ok (.iconst 1, 1) := by decide +kernel
theorem dX2_hasRun_27 : decode cX2_hasRun 27 = .ok (.goto 4, 3) := by decide +kernel
theorem dX2_hasRun_30 : decode cX2_hasRun 30 = .ok (.iconst 0, 1) := by decide +kernel
theorem dX2_hasRun_31 : decode cX2_hasRun 31 = .ok (.ireturn, 1) := by decide +kernel
theorem dX3_init_0 : decode cX3_init 0 = .ok (.aload_n 0, 1) := by decide +kernel
theorem dX3_init_1 : decode cX3_init 1 = .ok (.invokespecial 1, 3) := by decide +kernel
theorem dX3_init_4 : decode cX3_init 4 = .ok (.aload_n 0, 1) := by decide +kernel
theorem dX3_init_5 : decode cX3_init 5 = .ok (.bipush 120, 2) := by decide +kernel
theorem dX3_init_7 : decode cX3_init 7 = .ok (.newarray .int, 2) := by decide +kernel
theorem dX3_init_9 : decode cX3_init 9 = .ok (.putfield 9, 3) := by decide +kernel
theorem dX3_init_12 : decode cX3_init 12 = .ok (.return_, 1) := by decide +kernel
theorem dX3_add_0 : decode cX3_add 0 = .ok (.aload_n 0, 1) := by decide +kernel
theorem dX3_add_1 : decode cX3_add 1 = .ok (.getfield 13, 3) := by decide +kernel
theorem dX3_add_4 : decode cX3_add 4 = .ok (.bipush 120, 2) := by decide +kernel
theorem dX3_add_6 : decode cX3_add 6 = .ok (.if_icmp .ge 23, 3) := by decide +kernel
theorem dX3_add_9 : decode cX3_add 9 = .ok (.aload_n 0, 1) := by decide +kernel
theorem dX3_add_10 : decode cX3_add 10 = .ok (.getfield 9, 3) := by decide +kernel
theorem dX3_add_13 : decode cX3_add 13 = .ok (.aload_n 0, 1) := by decide +kernel
theorem dX3_add_14 : decode cX3_add 14 = .ok (.getfield 13, 3) := by decide +kernel
theorem dX3_add_17 : decode cX3_add 17 = .ok (.iload_n 1, 1) := by decide +kernel
theorem dX3_add_18 : decode cX3_add 18 = .ok (.iastore, 1) := by decide +kernel
theorem dX3_add_19 : decode cX3_add 19 = .ok (.aload_n 0, 1) := by decide +kernel
theorem dX3_add_20 : decode cX3_add 20 = .ok (.dup, 1) := by decide +kernel
theorem dX3_add_21 : decode cX3_add 21 = .ok (.getfield 13, 3) := by decide +kernel
theorem dX3_add_24 : decode cX3_add 24 = .ok (.iconst 1, 1) := by decide +kernel
theorem dX3_add_25 : decode cX3_add 25 = .ok (.iadd, 1) := by decide +kernel
theorem dX3_add_26 : decode cX3_add 26 = .ok (.putfield 13, 3) := by decide +kernel
theorem dX3_add_29 : decode cX3_add 29 = .ok (.return_, 1) := by decide +kernel
theorem dX3_isBetween_0 : decode cX3_isBetween 0 = .ok (.iload_n 1, 1) := by decide +kernel
theorem dX3_isBetween_1 : decode cX3_isBetween 1 = .ok (.aload_n 0, 1) := by decide +kernel
theorem dX3_isBetween_2 : decode cX3_isBetween 2 = .ok (.getfield 13, 3) := by decide +kernel
theorem dX3_isBetween_5 : decode cX3_isBetween 5 = .ok (.if_icmp .ge 27, 3) := by decide +kernel
theorem dX3_isBetween_8 : decode cX3_isBetween 8 = .ok (.aload_n 0, 1) := by decide +kernel
theorem dX3_isBetween_9 : decode cX3_isBetween 9 = .ok (.getfield 9, 3) := by decide +kernel
theorem dX3_isBetween_12 : decode cX3_isBetween 12 = .ok (.iload_n 1, 1) := by decide +kernel
theorem dX3_isBetween_13 : decode cX3_isBetween 13 = .ok (.iaload, 1) := by decide +kernel
theorem dX3_isBetween_14 : decode cX3_isBetween 14 = .ok (.iload_n 2, 1) := by decide +kernel
theorem dX3_isBetween_15 : decode cX3_isBetween 15 = .ok (.if_icmp .lt 17, 3) := by decide +kernel
theorem dX3_isBetween_18 : decode cX3_isBetween 18 = .ok (.aload_n 0, 1) := by decide +kernel
theorem dX3_isBetween_19 : decode cX3_isBetween 19 = .ok (.getfield 9, 3) := by decide +kernel
theorem dX3_isBetween_22 : decode cX3_isBetween 22 = .ok (.iload_n 1, 1) := by decide +kernel
theorem dX3_isBetween_23 : decode cX3_isBetween 23 = .ok (.iaload, 1) := by decide +kernel
theorem dX3_isBetween_24 : decode cX3_isBetween 24 = .ok (.iload_n 3, 1) := by decide +kernel
theorem dX3_isBetween_25 : decode cX3_isBetween 25 = .ok (.if_icmp .gt 7, 3) := by decide +kernel
theorem dX3_isBetween_28 : decode cX3_isBetween 28 = .ok (.iconst 1, 1) := by decide +kernel
theorem dX3_isBetween_29 : decode cX3_isBetween 29 = .ok (.goto 4, 3) := by decide +kernel
theorem dX3_isBetween_32 : decode cX3_isBetween 32 = .ok (.iconst 0, 1) := by decide +kernel
theorem dX3_isBetween_33 : decode cX3_isBetween 33 = .ok (.ireturn, 1) := by decide +kernel
theorem dX4_init_0 : decode cX4_init 0 = .ok (.aload_n 0, 1) := by decide +kernel
theorem dX4_init_1 : decode cX4_init 1 = .ok (.invokespecial 3, 3) := by decide +kernel
theorem dX4_init_4 : decode cX4_init 4 = .ok (.aload_n 0, 1) := by decide +kernel
theorem dX4_init_5 : decode cX4_init 5 = .ok (.aload_n 1, 1) := by decide +kernel
theorem dX4_init_6 : decode cX4_init 6 = .ok (.putfield 9, 3) := by decide +kernel
theorem dX4_init_9 : decode cX4_init 9 = .ok (.return_, 1) := by decide +kernel
theorem dX4_readInto_0 : decode cX4_readInto 0 = .ok (.aload_n 0, 1) := by decide +kernel
theorem dX4_readInto_1 : decode cX4_readInto 1 = .ok (.iconst 0, 1) := by decide +kernel
theorem dX4_readInto_2 : decode cX4_readInto 2 = .ok (.putfield 15, 3) := by decide +kernel
theorem dX4_readInto_5 : decode cX4_readInto 5 = .ok (.aload_n 0, 1) := by decide +kernel
theorem dX4_readInto_6 : decode cX4_readInto 6 = .ok (.invokevirtual 19, 3) := by decide +kernel
theorem dX4_readInto_9 : decode cX4_readInto 9 = .ok (.aload_n 0, 1) := by decide +kernel
theorem dX4_readInto_10 : decode cX4_readInto 10 = .ok (.aload_n 1, 1) := by decide +kernel
theorem dX4_readInto_11 : decode cX4_readInto 11 = .ok (.invokevirtual 22, 3) := by decide +kernel
theorem dX4_readInto_14 : decode cX4_readInto 14 = .ok (.istore_n 2, 1) := by decide +kernel
theorem dX4_readInto_15 : decode cX4_readInto 15 = .ok (.iconst 1, 1) := by decide +kernel
theorem dX4_readInto_16 : decode cX4_readInto 16 = .ok (.istore_n 3, 1) := by decide +kernel
theorem dX4_readInto_17 : decode cX4_readInto 17 = .ok (.iload_n 2, 1) := by decide +kernel
theorem dX4_readInto_18 : decode cX4_readInto 18 = .ok (.ifCond .eq 33, 3) := by decide +kernel
theorem dX4_readInto_21 : decode cX4_readInto 21 = .ok (.aload_n 0, 1) := by decide +kernel
theorem dX4_readInto_22 : decode cX4_readInto 22 = .ok (.getfield 26, 3) := by decide +kernel
theorem dX4_readInto_25 : decode cX4_readInto 25 = .ok (.iconst 3, 1) := by decide +kernel
theorem dX4_readInto_26 : decode cX4_readInto 26 = .ok (.if_icmp .ne 25, 3) := by decide +kernel
theorem dX4_readInto_29 : decode cX4_readInto 29 = .ok (.iload_n 3, 1) := by decide +kernel
theorem dX4_readInto_30 : decode cX4_readInto 30 = .ok (.bipush 120, 2) := by decide +kernel
theorem dX4_readInto_32 : decode cX4_readInto 32 = .ok (.if_icmp .ge 19, 3) := by decide +kernel
theorem dX4_readInto_35 : decode cX4_readInto 35 = .ok (.aload_n 0, 1) := by decide +kernel
theorem dX4_readInto_36 : decode cX4_readInto 36 = .ok (.invokevirtual 19, 3) := by decide +kernel
theorem dX4_readInto_39 : decode cX4_readInto 39 = .ok (.aload_n 0, 1) := by decide +kernel
theorem dX4_readInto_40 : decode cX4_readInto 40 = .ok (.aload_n 1, 1) := by decide +kernel
theorem dX4_readInto_41 : decode cX4_readInto 41 = .ok (.invokevirtual 22, 3) := by decide +kernel
theorem dX4_readInto_44 : decode cX4_readInto 44 = .ok (.istore_n 2, 1) := by decide +kernel
theorem dX4_readInto_45 : decode cX4_readInto 45 = .ok (.iinc 3 1, 3) := by decide +kernel
theorem dX4_readInto_48 : decode cX4_readInto 48 = .ok (.goto (-31), 3) := by decide +kernel
theorem dX4_readInto_51 : decode cX4_readInto 51 = .ok (.iload_n 2, 1) := by decide +kernel
theorem dX4_readInto_52 : decode cX4_readInto 52 = .ok (.ifCond .eq 14, 3) := by decide +kernel
theorem dX4_readInto_55 : decode cX4_readInto 55 = .ok (.aload_n 0, 1) := by decide +kernel
theorem dX4_readInto_56 : decode cX4_readInto 56 = .ok (.getfield 26, 3) := by decide +kernel
theorem dX4_readInto_59 : decode cX4_readInto 59 = .ok (.ifCond .ne 7, 3) := by decide +kernel
theorem dX4_readInto_62 : decode cX4_readInto 62 = .ok (.iload_n 3, 1) := by decide +kernel
theorem dX4_readInto_63 : decode cX4_readInto 63 = .ok (.goto 9, 3) := by decide +kernel
theorem dX4_readInto_66 : decode cX4_readInto 66 = .ok (.iconst (-1), 1) := by decide +kernel
theorem dX4_readInto_67 : decode cX4_readInto 67 = .ok (.aload_n 0, 1) := by decide +kernel
theorem dX4_readInto_68 : decode cX4_readInto 68 = .ok (.getfield 31, 3) := by decide +kernel
theorem dX4_readInto_71 : decode cX4_readInto 71 = .ok (.isub, 1) := by decide +kernel
theorem dX4_readInto_72 : decode cX4_readInto 72 = .ok (.ireturn, 1) := by decide +kernel
theorem dX4_readItem_0 : decode cX4_readItem 0 = .ok (.aload_n 0, 1) := by decide +kernel
theorem dX4_readItem_1 : decode cX4_readItem 1 = .ok (.ldc 34, 2) := by decide +kernel
theorem dX4_readItem_3 : decode cX4_readItem 3 = .ok (.invokevirtual 36, 3) := by decide +kernel
theorem dX4_readItem_6 : decode cX4_readItem 6 = .ok (.ifCond .eq 9, 3) := by decide +kernel
theorem dX4_readItem_9 : decode cX4_readItem 9 = .ok (.aload_n 0, 1) := by decide +kernel
theorem dX4_readItem_10 : decode cX4_readItem 10 = .ok (.aload_n 1, 1) := by decide +kernel
theorem dX4_readItem_11 : decode cX4_readItem 11 = .ok (.invokevirtual 40, 3) := by decide +kernel
theorem dX4_readItem_14 : decode cX4_readItem 14 = .ok (.ireturn, 1) := by decide +kernel
theorem dX4_readItem_15 : decode cX4_readItem 15 = .ok (.aload_n 0, 1) := by decide +kernel
theorem dX4_readItem_16 : decode cX4_readItem 16 = .ok (.invokevirtual 43, 3) := by decide +kernel
theorem dX4_readItem_19 : decode cX4_readItem 19 = .ok (.istore_n 2, 1) := by decide +kernel
theorem dX4_readItem_20 : decode cX4_readItem 20 = .ok (.iload_n 2, 1) := by decide +kernel
theorem dX4_readItem_21 : decode cX4_readItem 21 = .ok (.ifCond .ge 5, 3) := by decide +kernel
theorem dX4_readItem_24 : decode cX4_readItem 24 = .ok (.iconst 0, 1) := by decide +kernel
theorem dX4_readItem_25 : decode cX4_readItem 25 = .ok (.ireturn, 1) := by decide +kernel
theorem dX4_readItem_26 : decode cX4_readItem 26 = .ok (.aload_n 0, 1) := by decide +kernel
theorem dX4_readItem_27 : decode cX4_readItem 27 = .ok (.invokevirtual 19, 3) := by decide +kernel
theorem dX4_readItem_30 : decode cX4_readItem 30 = .ok (.aload_n 0, 1) := by decide +kernel
theorem dX4_readItem_31 : decode cX4_readItem 31 = .ok (.bipush 10, 2) := by decide +kernel
theorem dX4_readItem_33 : decode cX4_readItem 33 = .ok (.invokevirtual 47, 3) := by decide +kernel
theorem dX4_readItem_36 : decode cX4_readItem 36 = .ok (.ifCond .ne 5, 3) := by decide +kernel
theorem dX4_readItem_39 : decode cX4_readItem 39 = .ok (.iconst 0, 1) := by decide +kernel
theorem dX4_readItem_40 : decode cX4_readItem 40 = .ok (.ireturn, 1) := by decide +kernel
theorem dX4_readItem_41 : decode cX4_readItem 41 = .ok (.aload_n 0, 1) := by decide +kernel
theorem dX4_readItem_42 : decode cX4_readItem 42 = .ok (.getfield 51, 3) := by decide +kernel
theorem dX4_readItem_45 : decode cX4_readItem 45 = .ok (.istore_n 3, 1) := by decide +kernel
theorem dX4_readItem_46 : decode cX4_readItem 46 = .ok (.aload_n 1, 1) := by decide +kernel
theorem dX4_readItem_47 : decode cX4_readItem 47 = .ok (.getfield 54, 3) := by decide +kernel
theorem dX4_readItem_50 : decode cX4_readItem 50 = .ok (.iload_n 3, 1) := by decide +kernel
theorem dX4_readItem_51 : decode cX4_readItem 51 = .ok (.iload_n 2, 1) := by decide +kernel
theorem dX4_readItem_52 : decode cX4_readItem 52 = .ok (.iastore, 1) := by decide +kernel
theorem dX4_readItem_53 : decode cX4_readItem 53 = .ok (.aload_n 0, 1) := by decide +kernel
theorem dX4_readItem_54 : decode cX4_readItem 54 = .ok (.invokevirtual 19, 3) := by decide +kernel
theorem dX4_readItem_57 : decode cX4_readItem 57 = .ok (.aload_n 0, 1) := by decide +kernel
theorem dX4_readItem_58 : decode cX4_readItem 58 = .ok (.ldc 60, 2) := by decide +kernel
theorem dX4_readItem_60 : decode cX4_readItem 60 = .ok (.aload_n 1, 1) := by decide +kernel
theorem dX4_readItem_61 : decode cX4_readItem 61 = .ok (.getfield 62, 3) := by decide +kernel
theorem dX4_readItem_64 : decode cX4_readItem 64 = .ok (.iload_n 3, 1) := by decide +kernel
theorem dX4_readItem_65 : decode cX4_readItem 65 = .ok (.sipush 9999, 3) := by decide +kernel
theorem dX4_readItem_68 : decode cX4_readItem 68 = .ok (.invokevirtual 65, 3) := by decide +kernel
theorem dX4_readItem_71 : decode cX4_readItem 71 = .ok (.ifCond .eq 49, 3) := by decide +kernel
theorem dX4_readItem_74 : decode cX4_readItem 74 = .ok (.aload_n 0, 1) := by decide +kernel
theorem dX4_readItem_75 : decode cX4_readItem 75 = .ok (.ldc 69, 2) := by decide +kernel
theorem dX4_readItem_77 : decode cX4_readItem 77 = .ok (.aload_n 1, 1) := by decide +kernel
theorem dX4_readItem_78 : decode cX4_readItem 78 = .ok (.getfield 71, 3) := by decide +kernel
theorem dX4_readItem_81 : decode cX4_readItem 81 = .ok (.iload_n 3, 1) := by decide +kernel
theorem dX4_readItem_82 : decode cX4_readItem 82 = .ok (.bipush 99, 2) := by decide +kernel
theorem dX4_readItem_84 : decode cX4_readItem 84 = .ok (.invokevirtual 65, 3) := by decide +kernel
theorem dX4_readItem_87 : decode cX4_readItem 87 = .ok (.ifCond .eq 33, 3) := by decide +kernel
theorem dX4_readItem_90 : decode cX4_readItem 90 = .ok (.aload_n 0, 1) := by decide +kernel
theorem dX4_readItem_91 : decode cX4_readItem 91 = .ok (.ldc 74, 2) := by decide +kernel
theorem dX4_readItem_93 : decode cX4_readItem 93 = .ok (.aload_n 1, 1) := by decide +kernel
theorem dX4_readItem_94 : decode cX4_readItem 94 = .ok (.getfield 76, 3) := by decide +kernel
theorem dX4_readItem_97 : decode cX4_readItem 97 = .ok (.iload_n 3, 1) := by decide +kernel
theorem dX4_readItem_98 : decode cX4_readItem 98 = .ok (.sipush 999, 3) := by decide +kernel
theorem dX4_readItem_101 : decode cX4_readItem 101 = .ok (.invokevirtual 65, 3) := by decide +kernel
theorem dX4_readItem_104 : decode cX4_readItem 104 = .ok (.ifCond .eq 16, 3) := by decide +kernel
theorem dX4_readItem_107 : decode cX4_readItem 107 = .ok (.aload_n 0, 1) := by decide +kernel
theorem dX4_readItem_108 : decode cX4_readItem 108 = .ok (.aload_n 1, 1) := by decide +kernel
theorem dX4_readItem_109 : decode cX4_readItem 109 = .ok (.iload_n 3, 1) := by decide +kernel
theorem dX4_readItem_110 : decode cX4_readItem 110 = .ok (.invokevirtual 78, 3) := by decide +kernel
theorem dX4_readItem_113 : decode cX4_readItem 113 = .ok (.ifCond .eq 7, 3) := by decide +kernel
theorem dX4_readItem_116 : decode cX4_readItem 116 = .ok (.iconst 1, 1) := by decide +kernel
theorem dX4_readItem_117 : decode cX4_readItem 117 = .ok (.goto 4, 3) := by decide +kernel
theorem dX4_readItem_120 : decode cX4_readItem 120 = .ok (.iconst 0, 1) := by decide +kernel
theorem dX4_readItem_121 : decode cX4_readItem 121 = .ok (.ireturn, 1) := by decide +kernel
theorem dX4_readRain_0 : decode cX4_readRain 0 = .ok (.aload_n 0, 1) := by decide +kernel
theorem dX4_readRain_1 : decode cX4_readRain 1 = .ok (.invokevirtual 19, 3) := by decide +kernel
theorem dX4_readRain_4 : decode cX4_readRain 4 = .ok (.aload_n 0, 1) := by decide +kernel
theorem dX4_readRain_5 : decode cX4_readRain 5 = .ok (.sipush 999, 3) := by decide +kernel
theorem dX4_readRain_8 : decode cX4_readRain 8 = .ok (.invokevirtual 47, 3) := by decide +kernel
theorem dX4_readRain_11 : decode cX4_readRain 11 = .ok (.ifCond .ne 5, 3) := by decide +kernel
theorem dX4_readRain_14 : decode cX4_readRain 14 = .ok (.iconst 0, 1) := by decide +kernel
theorem dX4_readRain_15 : decode cX4_readRain 15 = .ok (.ireturn, 1) := by decide +kernel
theorem dX4_readRain_16 : decode cX4_readRain 16 = .ok (.aload_n 1, 1) := by decide +kernel
theorem dX4_readRain_17 : decode cX4_readRain 17 = .ok (.aload_n 0, 1) := by decide +kernel
theorem dX4_readRain_18 : decode cX4_readRain 18 = .ok (.getfield 51, 3) := by decide +kernel
theorem dX4_readRain_21 : decode cX4_readRain 21 = .ok (.putfield 82, 3) := by decide +kernel
theorem dX4_readRain_24 : decode cX4_readRain 24 = .ok (.aload_n 0, 1) := by decide +kernel
theorem dX4_readRain_25 : decode cX4_readRain 25 = .ok (.invokevirtual 19, 3) := by decide +kernel
theorem dX4_readRain_28 : decode cX4_readRain 28 = .ok (.iconst 1, 1) := by decide +kernel
theorem dX4_readRain_29 : decode cX4_readRain 29 = .ok (.ireturn, 1) := by decide +kernel
theorem dX4_readPart_0 : decode cX4_readPart 0 = .ok (.aload_n 0, 1) := by decide +kernel
theorem dX4_readPart_1 : decode cX4_readPart 1 = .ok (.aload_n 1, 1) := by decide +kernel
theorem dX4_readPart_2 : decode cX4_readPart 2 = .ok (.invokevirtual 36, 3) := by decide +kernel
theorem dX4_readPart_5 : decode cX4_readPart 5 = .ok (.ifCond .ne 5, 3) := by decide +kernel
theorem dX4_readPart_8 : decode cX4_readPart 8 = .ok (.iconst 1, 1) := by decide +kernel
theorem dX4_readPart_9 : decode cX4_readPart 9 = .ok (.ireturn, 1) := by decide +kernel
theorem dX4_readPart_10 : decode cX4_readPart 10 = .ok (.aload_n 0, 1) := by decide +kernel
theorem dX4_readPart_11 : decode cX4_readPart 11 = .ok (.invokevirtual 19, 3) := by decide +kernel
theorem dX4_readPart_14 : decode cX4_readPart 14 = .ok (.aload_n 0, 1) := by decide +kernel
theorem dX4_readPart_15 : decode cX4_readPart 15 = .ok (.iload 4, 2) := by decide +kernel
theorem dX4_readPart_17 : decode cX4_readPart 17 = .ok (.invokevirtual 47, 3) := by decide +kernel
theorem dX4_readPart_20 : decode cX4_readPart 20 = .ok (.ifCond .ne 5, 3) := by decide +kernel
theorem dX4_readPart_23 : decode cX4_readPart 23 = .ok (.iconst 0, 1) := by decide +kernel
theorem dX4_readPart_24 : decode cX4_readPart 24 = .ok (.ireturn, 1) := by decide +kernel
theorem dX4_readPart_25 : decode cX4_readPart 25 = .ok (.aload_n 2, 1) := by decide +kernel
theorem dX4_readPart_26 : decode cX4_readPart 26 = .ok (.iload_n 3, 1) := by decide +kernel
theorem dX4_readPart_27 : decode cX4_readPart 27 = .ok (.aload_n 0, 1) := by decide +kernel
theorem dX4_readPart_28 : decode cX4_readPart 28 = .ok (.getfield 51, 3) := by decide +kernel
theorem dX4_readPart_31 : decode cX4_readPart 31 = .ok (.iastore, 1) := by decide +kernel
theorem dX4_readPart_32 : decode cX4_readPart 32 = .ok (.aload_n 0, 1) := by decide +kernel
theorem dX4_readPart_33 : decode cX4_readPart 33 = .ok (.invokevirtual 19, 3) := by decide +kernel
theorem dX4_readPart_36 : decode cX4_readPart 36 = .ok (.iconst 1, 1) := by decide +kernel
theorem dX4_readPart_37 : decode cX4_readPart 37 = .ok (.ireturn, 1) := by decide +kernel
theorem dX4_readSpout_0 : decode cX4_readSpout 0 = .ok (.aload_n 0, 1) := by decide +kernel
theorem dX4_readSpout_1 : decode cX4_readSpout 1 = .ok (.ldc 84, 2) := by decide +kernel
theorem dX4_readSpout_3 : decode cX4_readSpout 3 = .ok (.invokevirtual 36, 3) := by decide +kernel
theorem dX4_readSpout_6 : decode cX4_readSpout 6 = .ok (.ifCond .eq 17, 3) := by decide +kernel
theorem dX4_readSpout_9 : decode cX4_readSpout 9 = .ok (.aload_n 1, 1) := by decide +kernel
theorem dX4_readSpout_10 : decode cX4_readSpout 10 = .ok (.getfield 86, 3) := by decide +kernel
theorem dX4_readSpout_13 : decode cX4_readSpout 13 = .ok (.iload_n 2, 1) := by decide +kernel
theorem dX4_readSpout_14 : decode cX4_readSpout 14 = .ok (.iconst 0, 1) := by decide +kernel
theorem dX4_readSpout_15 : decode cX4_readSpout 15 = .ok (.iastore, 1) := by decide +kernel
theorem dX4_readSpout_16 : decode cX4_readSpout 16 = .ok (.aload_n 0, 1) := by decide +kernel
theorem dX4_readSpout_17 : decode cX4_readSpout 17 = .ok (.invokevirtual 19, 3) := by decide +kernel
theorem dX4_readSpout_20 : decode cX4_readSpout 20 = .ok (.goto 23, 3) := by decide +kernel
theorem dX4_readSpout_23 : decode cX4_readSpout 23 = .ok (.aload_n 0, 1) := by decide +kernel
theorem dX4_readSpout_24 : decode cX4_readSpout 24 = .ok (.ldc 89, 2) := by decide +kernel
theorem dX4_readSpout_26 : decode cX4_readSpout 26 = .ok (.invokevirtual 36, 3) := by decide +kernel
theorem dX4_readSpout_29 : decode cX4_readSpout 29 = .ok (.ifCond .eq 14, 3) := by decide +kernel
theorem dX4_readSpout_32 : decode cX4_readSpout 32 = .ok (.aload_n 1, 1) := by decide +kernel
theorem dX4_readSpout_33 : decode cX4_readSpout 33 = .ok (.getfield 86, 3) := by decide +kernel
theorem dX4_readSpout_36 : decode cX4_readSpout 36 = .ok (.iload_n 2, 1) := by decide +kernel
theorem dX4_readSpout_37 : decode cX4_readSpout 37 = .ok (.iconst 1, 1) := by decide +kernel
theorem dX4_readSpout_38 : decode cX4_readSpout 38 = .ok (.iastore, 1) := by decide +kernel
theorem dX4_readSpout_39 : decode cX4_readSpout 39 = .ok (.aload_n 0, 1) := by decide +kernel
theorem dX4_readSpout_40 : decode cX4_readSpout 40 = .ok (.invokevirtual 19, 3) := by decide +kernel
theorem dX4_readSpout_43 : decode cX4_readSpout 43 = .ok (.iconst 1, 1) := by decide +kernel
theorem dX4_readSpout_44 : decode cX4_readSpout 44 = .ok (.ireturn, 1) := by decide +kernel
theorem dX4_kindOfWord_0 : decode cX4_kindOfWord 0 = .ok (.iconst 0, 1) := by decide +kernel
theorem dX4_kindOfWord_1 : decode cX4_kindOfWord 1 = .ok (.istore_n 1, 1) := by decide +kernel
theorem dX4_kindOfWord_2 : decode cX4_kindOfWord 2 = .ok (.iload_n 1, 1) := by decide +kernel
theorem dX4_kindOfWord_3 : decode cX4_kindOfWord 3 = .ok (.bipush 7, 2) := by decide +kernel
theorem dX4_kindOfWord_5 : decode cX4_kindOfWord 5 = .ok (.if_icmp .ge 22, 3) := by decide +kernel
theorem dX4_kindOfWord_8 : decode cX4_kindOfWord 8 = .ok (.aload_n 0, 1) := by decide +kernel
theorem dX4_kindOfWord_9 : decode cX4_kindOfWord 9 = .ok (.iload_n 1, 1) := by decide +kernel
theorem dX4_kindOfWord_10 : decode cX4_kindOfWord 10 = .ok (.invokestatic 93, 3) := by decide +kernel
theorem dX4_kindOfWord_13 : decode cX4_kindOfWord 13 = .ok (.invokevirtual 36, 3) := by decide +kernel
theorem dX4_kindOfWord_16 : decode cX4_kindOfWord 16 = .ok (.ifCond .eq 5, 3) := by decide +kernel
theorem dX4_kindOfWord_19 : decode cX4_kindOfWord 19 = .ok (.iload_n 1, 1) := by decide +kernel
theorem dX4_kindOfWord_20 : decode cX4_kindOfWord 20 = .ok (.ireturn, 1) := by decide +kernel
theorem dX4_kindOfWord_21 : decode cX4_kindOfWord 21 = .ok (.iinc 1 1, 3) := by decide +kernel
theorem dX4_kindOfWord_24 : decode cX4_kindOfWord 24 = .ok (.goto (-22), 3) := by decide +kernel
theorem dX4_kindOfWord_27 : decode cX4_kindOfWord 27 = .ok (.iconst (-1), 1) := by decide +kernel
theorem dX4_kindOfWord_28 : decode cX4_kindOfWord 28 = .ok (.ireturn, 1) := by decide +kernel
theorem dX4_nameOf_0 : decode cX4_nameOf 0 = .ok (.iload_n 0, 1) := by decide +kernel
theorem dX4_nameOf_1 : decode cX4_nameOf 1 = .ok (.tableswitch 57 1 6 #[39, 42, 45, 48, 51, 54], 39) := by decide +kernel
theorem dX4_nameOf_40 : decode cX4_nameOf 40 = .ok (.ldc 97, 2) := by decide +kernel
theorem dX4_nameOf_42 : decode cX4_nameOf 42 = .ok (.areturn, 1) := by decide +kernel
theorem dX4_nameOf_43 : decode cX4_nameOf 43 = .ok (.ldc 99, 2) := by decide +kernel
theorem dX4_nameOf_45 : decode cX4_nameOf 45 = .ok (.areturn, 1) := by decide +kernel
theorem dX4_nameOf_46 : decode cX4_nameOf 46 = .ok (.ldc 101, 2) := by decide +kernel
theorem dX4_nameOf_48 : decode cX4_nameOf 48 = .ok (.areturn, 1) := by decide +kernel
theorem dX4_nameOf_49 : decode cX4_nameOf 49 = .ok (.ldc 103, 2) := by decide +kernel
theorem dX4_nameOf_51 : decode cX4_nameOf 51 = .ok (.areturn, 1) := by decide +kernel
theorem dX4_nameOf_52 : decode cX4_nameOf 52 = .ok (.ldc 105, 2) := by decide +kernel
theorem dX4_nameOf_54 : decode cX4_nameOf 54 = .ok (.areturn, 1) := by decide +kernel
theorem dX4_nameOf_55 : decode cX4_nameOf 55 = .ok (.ldc 107, 2) := by decide +kernel
theorem dX4_nameOf_57 : decode cX4_nameOf 57 = .ok (.areturn, 1) := by decide +kernel
theorem dX4_nameOf_58 : decode cX4_nameOf 58 = .ok (.ldc 109, 2) := by decide +kernel
theorem dX4_nameOf_60 : decode cX4_nameOf 60 = .ok (.areturn, 1) := by decide +kernel
theorem dX4_isNumber_0 : decode cX4_isNumber 0 = .ok (.aload_n 0, 1) := by decide +kernel
theorem dX4_isNumber_1 : decode cX4_isNumber 1 = .ok (.getfield 26, 3) := by decide +kernel
theorem dX4_isNumber_4 : decode cX4_isNumber 4 = .ok (.iconst 2, 1) := by decide +kernel
theorem dX4_isNumber_5 : decode cX4_isNumber 5 = .ok (.if_icmp .ne 15, 3) := by decide +kernel
theorem dX4_isNumber_8 : decode cX4_isNumber 8 = .ok (.aload_n 0, 1) := by decide +kernel
theorem dX4_isNumber_9 : decode cX4_isNumber 9 = .ok (.getfield 51, 3) := by decide +kernel
theorem dX4_isNumber_12 : decode cX4_isNumber 12 = .ok (.iload_n 1, 1) := by decide +kernel
theorem dX4_isNumber_13 : decode cX4_isNumber 13 = .ok (.if_icmp .gt 7, 3) := by decide +kernel
theorem dX4_isNumber_16 : decode cX4_isNumber 16 = .ok (.iconst 1, 1) := by decide +kernel
theorem dX4_isNumber_17 : decode cX4_isNumber 17 = .ok (.goto 4, 3) := by decide +kernel
theorem dX4_isNumber_20 : decode cX4_isNumber 20 = .ok (.iconst 0, 1) := by decide +kernel
theorem dX4_isNumber_21 : decode cX4_isNumber 21 = .ok (.ireturn, 1) := by decide +kernel
theorem dX4_isWord_0 : decode cX4_isWord 0 = .ok (.aload_n 0, 1) := by decide +kernel
theorem dX4_isWord_1 : decode cX4_isWord 1 = .ok (.getfield 26, 3) := by decide +kernel
theorem dX4_isWord_4 : decode cX4_isWord 4 = .ok (.iconst 1, 1) := by decide +kernel
theorem dX4_isWord_5 : decode cX4_isWord 5 = .ok (.if_icmp .ne 19, 3) := by decide +kernel
theorem dX4_isWord_8 : decode cX4_isWord 8 = .ok (.aload_n 0, 1) := by decide +kernel
theorem dX4_isWord_9 : decode cX4_isWord 9 = .ok (.getfield 15, 3) := by decide +kernel
theorem dX4_isWord_12 : decode cX4_isWord 12 = .ok (.aload_n 0, 1) := by decide +kernel
theorem dX4_isWord_13 : decode cX4_isWord 13 = .ok (.getfield 31, 3) := by decide +kernel
theorem dX4_isWord_16 : decode cX4_isWord 16 = .ok (.isub, 1) := by decide +kernel
theorem dX4_isWord_17 : decode cX4_isWord 17 = .ok (.aload_n 1, 1) := by decide +kernel
theorem dX4_isWord_18 : decode cX4_isWord 18 = .ok (.invokevirtual 111, 3) := by decide +kernel
theorem dX4_isWord_21 : decode cX4_isWord 21 = .ok (.if_icmp .eq 5, 3) := by decide +kernel
theorem dX4_isWord_24 : decode cX4_isWord 24 = .ok (.iconst 0, 1) := by decide +kernel
theorem dX4_isWord_25 : decode cX4_isWord 25 = .ok (.ireturn, 1) := by decide +kernel
theorem dX4_isWord_26 : decode cX4_isWord 26 = .ok (.iconst 0, 1) := by decide +kernel
theorem dX4_isWord_27 : decode cX4_isWord 27 = .ok (.istore_n 2, 1) := by decide +kernel
theorem dX4_isWord_28 : decode cX4_isWord 28 = .ok (.iload_n 2, 1) := by decide +kernel
theorem dX4_isWord_29 : decode cX4_isWord 29 = .ok (.aload_n 1, 1) := by decide +kernel
theorem dX4_isWord_30 : decode cX4_isWord 30 = .ok (.invokevirtual 111, 3) := by decide +kernel
theorem dX4_isWord_33 : decode cX4_isWord 33 = .ok (.if_icmp .ge 33, 3) := by decide +kernel
theorem dX4_isWord_36 : decode cX4_isWord 36 = .ok (.aload_n 0, 1) := by decide +kernel
theorem dX4_isWord_37 : decode cX4_isWord 37 = .ok (.getfield 9, 3) := by decide +kernel
theorem dX4_isWord_40 : decode cX4_isWord 40 = .ok (.getfield 116, 3) := by decide +kernel
theorem dX4_isWord_43 : decode cX4_isWord 43 = .ok (.aload_n 0, 1) := by decide +kernel
theorem dX4_isWord_44 : decode cX4_isWord 44 = .ok (.getfield 31, 3) := by decide +kernel
theorem dX4_isWord_47 : decode cX4_isWord 47 = .ok (.iload_n 2, 1) := by decide +kernel
theorem dX4_isWord_48 : decode cX4_isWord 48 = .ok (.iadd, 1) := by decide +kernel
theorem dX4_isWord_49 : decode cX4_isWord 49 = .ok (.iaload, 1) := by decide +kernel
theorem dX4_isWord_50 : decode cX4_isWord 50 = .ok (.aload_n 1, 1) := by decide +kernel
theorem dX4_isWord_51 : decode cX4_isWord 51 = .ok (.iload_n 2, 1) := by decide +kernel
theorem dX4_isWord_52 : decode cX4_isWord 52 = .ok (.invokevirtual 119, 3) := by decide +kernel
theorem dX4_isWord_55 : decode cX4_isWord 55 = .ok (.if_icmp .eq 5, 3) := by decide +kernel
theorem dX4_isWord_58 : decode cX4_isWord 58 = .ok (.iconst 0, 1) := by decide +kernel
theorem dX4_isWord_59 : decode cX4_isWord 59 = .ok (.ireturn, 1) := by decide +kernel
theorem dX4_isWord_60 : decode cX4_isWord 60 = .ok (.iinc 2 1, 3) := by decide +kernel
theorem dX4_isWord_63 : decode cX4_isWord 63 = .ok (.goto (-35), 3) := by decide +kernel
theorem dX4_isWord_66 : decode cX4_isWord 66 = .ok (.iconst 1, 1) := by decide +kernel
theorem dX4_isWord_67 : decode cX4_isWord 67 = .ok (.ireturn, 1) := by decide +kernel
theorem dX4_nextToken_0 : decode cX4_nextToken 0 = .ok (.aload_n 0, 1) := by decide +kernel
theorem dX4_nextToken_1 : decode cX4_nextToken 1 = .ok (.aload_n 0, 1) := by decide +kernel
theorem dX4_nextToken_2 : decode cX4_nextToken 2 = .ok (.getfield 15, 3) := by decide +kernel
theorem dX4_nextToken_5 : decode cX4_nextToken 5 = .ok (.putfield 31, 3) := by decide +kernel
theorem dX4_nextToken_8 : decode cX4_nextToken 8 = .ok (.aload_n 0, 1) := by decide +kernel
theorem dX4_nextToken_9 : decode cX4_nextToken 9 = .ok (.getfield 31, 3) := by decide +kernel
theorem dX4_nextToken_12 : decode cX4_nextToken 12 = .ok (.aload_n 0, 1) := by decide +kernel
theorem dX4_nextToken_13 : decode cX4_nextToken 13 = .ok (.getfield 9, 3) := by decide +kernel
theorem dX4_nextToken_16 : decode cX4_nextToken 16 = .ok (.getfield 123, 3) := by decide +kernel
theorem dX4_nextToken_19 : decode cX4_nextToken 19 = .ok (.if_icmp .ge 33, 3) := by decide +kernel
theorem dX4_nextToken_22 : decode cX4_nextToken 22 = .ok (.aload_n 0, 1) := by decide +kernel
theorem dX4_nextToken_23 : decode cX4_nextToken 23 = .ok (.getfield 9, 3) := by decide +kernel
theorem dX4_nextToken_26 : decode cX4_nextToken 26 = .ok (.getfield 116, 3) := by decide +kernel
theorem dX4_nextToken_29 : decode cX4_nextToken 29 = .ok (.aload_n 0, 1) := by decide +kernel
theorem dX4_nextToken_30 : decode cX4_nextToken 30 = .ok (.getfield 31, 3) := by decide +kernel
theorem dX4_nextToken_33 : decode cX4_nextToken 33 = .ok (.iaload, 1) := by decide +kernel
theorem dX4_nextToken_34 : decode cX4_nextToken 34 = .ok (.bipush 32, 2) := by decide +kernel
theorem dX4_nextToken_36 : decode cX4_nextToken 36 = .ok (.if_icmp .ne 16, 3) := by decide +kernel
theorem dX4_nextToken_39 : decode cX4_nextToken 39 = .ok (.aload_n 0, 1) := by decide +kernel
theorem dX4_nextToken_40 : decode cX4_nextToken 40 = .ok (.dup, 1) := by decide +kernel
theorem dX4_nextToken_41 : decode cX4_nextToken 41 = .ok (.getfield 31, 3) := by decide +kernel
theorem dX4_nextToken_44 : decode cX4_nextToken 44 = .ok (.iconst 1, 1) := by decide +kernel
theorem dX4_nextToken_45 : decode cX4_nextToken 45 = .ok (.iadd, 1) := by decide +kernel
theorem dX4_nextToken_46 : decode cX4_nextToken 46 = .ok (.putfield 31, 3) := by decide +kernel
theorem dX4_nextToken_49 : decode cX4_nextToken 49 = .ok (.goto (-41), 3) := by decide +kernel
theorem dX4_nextToken_52 : decode cX4_nextToken 52 = .ok (.aload_n 0, 1) := by decide +kernel
theorem dX4_nextToken_53 : decode cX4_nextToken 53 = .ok (.aload_n 0, 1) := by decide +kernel
theorem dX4_nextToken_54 : decode cX4_nextToken 54 = .ok (.getfield 31, 3) := by decide +kernel
theorem dX4_nextToken_57 : decode cX4_nextToken 57 = .ok (.putfield 15, 3) := by decide +kernel
theorem dX4_nextToken_60 : decode cX4_nextToken 60 = .ok (.aload_n 0, 1) := by decide +kernel
theorem dX4_nextToken_61 : decode cX4_nextToken 61 = .ok (.getfield 31, 3) := by decide +kernel
theorem dX4_nextToken_64 : decode cX4_nextToken 64 = .ok (.aload_n 0, 1) := by decide +kernel
theorem dX4_nextToken_65 : decode cX4_nextToken 65 = .ok (.getfield 9, 3) := by decide +kernel
theorem dX4_nextToken_68 : decode cX4_nextToken 68 = .ok (.getfield 123, 3) := by decide +kernel
theorem dX4_nextToken_71 : decode cX4_nextToken 71 = .ok (.if_icmp .lt 11, 3) := by decide +kernel
theorem dX4_nextToken_74 : decode cX4_nextToken 74 = .ok (.aload_n 0, 1) := by decide +kernel
theorem dX4_nextToken_75 : decode cX4_nextToken 75 = .ok (.iconst 0, 1) := by decide +kernel
theorem dX4_nextToken_76 : decode cX4_nextToken 76 = .ok (.putfield 26, 3) := by decide +kernel
theorem dX4_nextToken_79 : decode cX4_nextToken 79 = .ok (.goto 89, 3) := by decide +kernel
theorem dX4_nextToken_82 : decode cX4_nextToken 82 = .ok (.aload_n 0, 1) := by decide +kernel
theorem dX4_nextToken_83 : decode cX4_nextToken 83 = .ok (.getfield 9, 3) := by decide +kernel
theorem dX4_nextToken_86 : decode cX4_nextToken 86 = .ok (.aload_n 0, 1) := by decide +kernel
theorem dX4_nextToken_87 : decode cX4_nextToken 87 = .ok (.getfield 31, 3) := by decide +kernel
theorem dX4_nextToken_90 : decode cX4_nextToken 90 = .ok (.bipush 97, 2) := by decide +kernel
theorem dX4_nextToken_92 : decode cX4_nextToken 92 = .ok (.bipush 122, 2) := by decide +kernel
theorem dX4_nextToken_94 : decode cX4_nextToken 94 = .ok (.invokevirtual 126, 3) := by decide +kernel
theorem dX4_nextToken_97 : decode cX4_nextToken 97 = .ok (.ifCond .eq 10, 3) := by decide +kernel
theorem dX4_nextToken_100 : decode cX4_nextToken 100 = .ok (.aload_n 0, 1) := by decide +kernel
theorem dX4_nextToken_101 : decode cX4_nextToken 101 = .ok (.invokevirtual 130, 3) := by decide +kernel
theorem dX4_nextToken_104 : decode cX4_nextToken 104 = .ok (.goto 64, 3) := by decide +kernel
theorem dX4_nextToken_107 : decode cX4_nextToken 107 = .ok (.aload_n 0, 1) := by decide +kernel
theorem dX4_nextToken_108 : decode cX4_nextToken 108 = .ok (.getfield 9, 3) := by decide +kernel
theorem dX4_nextToken_111 : decode cX4_nextToken 111 = .ok (.aload_n 0, 1) := by decide +kernel
theorem dX4_nextToken_112 : decode cX4_nextToken 112 = .ok (.getfield 31, 3) := by decide +kernel
theorem dX4_nextToken_115 : decode cX4_nextToken 115 = .ok (.bipush 48, 2) := by decide +kernel
theorem dX4_nextToken_117 : decode cX4_nextToken 117 = .ok (.bipush 57, 2) := by decide +kernel
theorem dX4_nextToken_119 : decode cX4_nextToken 119 = .ok (.invokevirtual 126, 3) := by decide +kernel
theorem dX4_nextToken_122 : decode cX4_nextToken 122 = .ok (.ifCond .eq 10, 3) := by decide +kernel
theorem dX4_nextToken_125 : decode cX4_nextToken 125 = .ok (.aload_n 0, 1) := by decide +kernel
theorem dX4_nextToken_126 : decode cX4_nextToken 126 = .ok (.invokevirtual 133, 3) := by decide +kernel
theorem dX4_nextToken_129 : decode cX4_nextToken 129 = .ok (.goto 39, 3) := by decide +kernel
theorem dX4_nextToken_132 : decode cX4_nextToken 132 = .ok (.aload_n 0, 1) := by decide +kernel
theorem dX4_nextToken_133 : decode cX4_nextToken 133 = .ok (.aload_n 0, 1) := by decide +kernel
theorem dX4_nextToken_134 : decode cX4_nextToken 134 = .ok (.getfield 9, 3) := by decide +kernel
theorem dX4_nextToken_137 : decode cX4_nextToken 137 = .ok (.getfield 116, 3) := by decide +kernel
theorem dX4_nextToken_140 : decode cX4_nextToken 140 = .ok (.aload_n 0, 1) := by decide +kernel
theorem dX4_nextToken_141 : decode cX4_nextToken 141 = .ok (.getfield 31, 3) := by decide +kernel
theorem dX4_nextToken_144 : decode cX4_nextToken 144 = .ok (.iaload, 1) := by decide +kernel
theorem dX4_nextToken_145 : decode cX4_nextToken 145 = .ok (.bipush 59, 2) := by decide +kernel
theorem dX4_nextToken_147 : decode cX4_nextToken 147 = .ok (.if_icmp .ne 7, 3) := by decide +kernel
theorem dX4_nextToken_150 : decode cX4_nextToken 150 = .ok (.iconst 3, 1) := by decide +kernel
theorem dX4_nextToken_151 : decode cX4_nextToken 151 = .ok (.goto 4, 3) := by decide +kernel
theorem dX4_nextToken_154 : decode cX4_nextToken 154 = .ok (.iconst 4, 1) := by decide +kernel
theorem dX4_nextToken_155 : decode cX4_nextToken 155 = .ok (.putfield 26, 3) := by decide +kernel
theorem dX4_nextToken_158 : decode cX4_nextToken 158 = .ok (.aload_n 0, 1) := by decide +kernel
theorem dX4_nextToken_159 : decode cX4_nextToken 159 = .ok (.aload_n 0, 1) := by decide +kernel
theorem dX4_nextToken_160 : decode cX4_nextToken 160 = .ok (.getfield 31, 3) := by decide +kernel
theorem dX4_nextToken_163 : decode cX4_nextToken 163 = .ok (.iconst 1, 1) := by decide +kernel
theorem dX4_nextToken_164 : decode cX4_nextToken 164 = .ok (.iadd, 1) := by decide +kernel
theorem dX4_nextToken_165 : decode cX4_nextToken 165 = .ok (.putfield 15, 3) := by decide +kernel
theorem dX4_nextToken_168 : decode cX4_nextToken 168 = .ok (.return_, 1) := by decide +kernel
theorem dX4_readWord_0 : decode cX4_readWord 0 = .ok (.aload_n 0, 1) := by decide +kernel
theorem dX4_readWord_1 : decode cX4_readWord 1 = .ok (.iconst 1, 1) := by decide +kernel
theorem dX4_readWord_2 : decode cX4_readWord 2 = .ok (.putfield 26, 3) := by decide +kernel
theorem dX4_readWord_5 : decode cX4_readWord 5 = .ok (.aload_n 0, 1) := by decide +kernel
theorem dX4_readWord_6 : decode cX4_readWord 6 = .ok (.getfield 15, 3) := by decide +kernel
theorem dX4_readWord_9 : decode cX4_readWord 9 = .ok (.aload_n 0, 1) := by decide +kernel
theorem dX4_readWord_10 : decode cX4_readWord 10 = .ok (.getfield 9, 3) := by decide +kernel
theorem dX4_readWord_13 : decode cX4_readWord 13 = .ok (.getfield 123, 3) := by decide +kernel
theorem dX4_readWord_16 : decode cX4_readWord 16 = .ok (.if_icmp .ge 34, 3) := by decide +kernel
theorem dX4_readWord_19 : decode cX4_readWord 19 = .ok (.aload_n 0, 1) := by decide +kernel
theorem dX4_readWord_20 : decode cX4_readWord 20 = .ok (.getfield 9, 3) := by decide +kernel
theorem dX4_readWord_23 : decode cX4_readWord 23 = .ok (.aload_n 0, 1) := by decide +kernel
theorem dX4_readWord_24 : decode cX4_readWord 24 = .ok (.getfield 15, 3) := by decide +kernel
theorem dX4_readWord_27 : decode cX4_readWord 27 = .ok (.bipush 97, 2) := by decide +kernel
theorem dX4_readWord_29 : decode cX4_readWord 29 = .ok (.bipush 122, 2) := by decide +kernel
theorem dX4_readWord_31 : decode cX4_readWord 31 = .ok (.invokevirtual 126, 3) := by decide +kernel
theorem dX4_readWord_34 : decode cX4_readWord 34 = .ok (.ifCond .eq 16, 3) := by decide +kernel
theorem dX4_readWord_37 : decode cX4_readWord 37 = .ok (.aload_n 0, 1) := by decide +kernel
theorem dX4_readWord_38 : decode cX4_readWord 38 = .ok (.dup, 1) := by decide +kernel
theorem dX4_readWord_39 : decode cX4_readWord 39 = .ok (.getfield 15, 3) := by decide +kernel
theorem dX4_readWord_42 : decode cX4_readWord 42 = .ok (.iconst 1, 1) := by decide +kernel
theorem dX4_readWord_43 : decode cX4_readWord 43 = .ok (.iadd, 1) := by decide +kernel
theorem dX4_readWord_44 : decode cX4_readWord 44 = .ok (.putfield 15, 3) := by decide +kernel
theorem dX4_readWord_47 : decode cX4_readWord 47 = .ok (.goto (-42), 3) := by decide +kernel
theorem dX4_readWord_50 : decode cX4_readWord 50 = .ok (.return_, 1) := by decide +kernel
theorem dX4_readNumber_0 : decode cX4_readNumber 0 = .ok (.aload_n 0, 1) := by decide +kernel
theorem dX4_readNumber_1 : decode cX4_readNumber 1 = .ok (.iconst 2, 1) := by decide +kernel
theorem dX4_readNumber_2 : decode cX4_readNumber 2 = .ok (.putfield 26, 3) := by decide +kernel
theorem dX4_readNumber_5 : decode cX4_readNumber 5 = .ok (.aload_n 0, 1) := by decide +kernel
theorem dX4_readNumber_6 : decode cX4_readNumber 6 = .ok (.iconst 0, 1) := by decide +kernel
theorem dX4_readNumber_7 : decode cX4_readNumber 7 = .ok (.putfield 51, 3) := by decide +kernel
theorem dX4_readNumber_10 : decode cX4_readNumber 10 = .ok (.aload_n 0, 1) := by decide +kernel
theorem dX4_readNumber_11 : decode cX4_readNumber 11 = .ok (.getfield 15, 3) := by decide +kernel
theorem dX4_readNumber_14 : decode cX4_readNumber 14 = .ok (.aload_n 0, 1) := by decide +kernel
theorem dX4_readNumber_15 : decode cX4_readNumber 15 = .ok (.getfield 9, 3) := by decide +kernel
theorem dX4_readNumber_18 : decode cX4_readNumber 18 = .ok (.getfield 123, 3) := by decide +kernel
theorem dX4_readNumber_21 : decode cX4_readNumber 21 = .ok (.if_icmp .ge 67, 3) := by decide +kernel
theorem dX4_readNumber_24 : decode cX4_readNumber 24 = .ok (.aload_n 0, 1) := by decide +kernel
theorem dX4_readNumber_25 : decode cX4_readNumber 25 = .ok (.getfield 9, 3) := by decide +kernel
theorem dX4_readNumber_28 : decode cX4_readNumber 28 = .ok (.aload_n 0, 1) := by decide +kernel
theorem dX4_readNumber_29 : decode cX4_readNumber 29 = .ok (.getfield 15, 3) := by decide +kernel
theorem dX4_readNumber_32 : decode cX4_readNumber 32 = .ok (.bipush 48, 2) := by decide +kernel
theorem dX4_readNumber_34 : decode cX4_readNumber 34 = .ok (.bipush 57, 2) := by decide +kernel
theorem dX4_readNumber_36 : decode cX4_readNumber 36 = .ok (.invokevirtual 126, 3) := by decide +kernel
theorem dX4_readNumber_39 : decode cX4_readNumber 39 = .ok (.ifCond .eq 49, 3) := by decide +kernel
theorem dX4_readNumber_42 : decode cX4_readNumber 42 = .ok (.aload_n 0, 1) := by decide +kernel
theorem dX4_readNumber_43 : decode cX4_readNumber 43 = .ok (.sipush 10000, 3) := by decide +kernel
theorem dX4_readNumber_46 : decode cX4_readNumber 46 = .ok (.aload_n 0, 1) := by decide +kernel
theorem dX4_readNumber_47 : decode cX4_readNumber 47 = .ok (.getfield 51, 3) := by decide +kernel
theorem dX4_readNumber_50 : decode cX4_readNumber 50 = .ok (.bipush 10, 2) := by decide +kernel
theorem dX4_readNumber_52 : decode cX4_readNumber 52 = .ok (.imul, 1) := by decide +kernel
theorem dX4_readNumber_53 : decode cX4_readNumber 53 = .ok (.aload_n 0, 1) := by decide +kernel
theorem dX4_readNumber_54 : decode cX4_readNumber 54 = .ok (.getfield 9, 3) := by decide +kernel
theorem dX4_readNumber_57 : decode cX4_readNumber 57 = .ok (.getfield 116, 3) := by decide +kernel
theorem dX4_readNumber_60 : decode cX4_readNumber 60 = .ok (.aload_n 0, 1) := by decide +kernel
theorem dX4_readNumber_61 : decode cX4_readNumber 61 = .ok (.getfield 15, 3) := by decide +kernel
theorem dX4_readNumber_64 : decode cX4_readNumber 64 = .ok (.iaload, 1) := by decide +kernel
theorem dX4_readNumber_65 : decode cX4_readNumber 65 = .ok (.iadd, 1) := by decide +kernel
theorem dX4_readNumber_66 : decode cX4_readNumber 66 = .ok (.bipush 48, 2) := by decide +kernel
theorem dX4_readNumber_68 : decode cX4_readNumber 68 = .ok (.isub, 1) := by decide +kernel
theorem dX4_readNumber_69 : decode cX4_readNumber 69 = .ok (.invokestatic 136, 3) := by decide +kernel
theorem dX4_readNumber_72 : decode cX4_readNumber 72 = .ok (.putfield 51, 3) := by decide +kernel
theorem dX4_readNumber_75 : decode cX4_readNumber 75 = .ok (.aload_n 0, 1) := by decide +kernel
theorem dX4_readNumber_76 : decode cX4_readNumber 76 = .ok (.dup, 1) := by decide +kernel
theorem dX4_readNumber_77 : decode cX4_readNumber 77 = .ok (.getfield 15, 3) := by decide +kernel
theorem dX4_readNumber_80 : decode cX4_readNumber 80 = .ok (.iconst 1, 1) := by decide +kernel
theorem dX4_readNumber_81 : decode cX4_readNumber 81 = .ok (.iadd, 1) := by decide +kernel
theorem dX4_readNumber_82 : decode cX4_readNumber 82 = .ok (.putfield 15, 3) := by decide +kernel
theorem dX4_readNumber_85 : decode cX4_readNumber 85 = .ok (.goto (-75), 3) := by decide +kernel
theorem dX4_readNumber_88 : decode cX4_readNumber 88 = .ok (.return_, 1) := by decide +kernel
theorem dX5_init_0 : decode cX5_init 0 = .ok (.aload_n 0, 1) := by decide +kernel
theorem dX5_init_1 : decode cX5_init 1 = .ok (.invokespecial 1, 3) := by decide +kernel
theorem dX5_init_4 : decode cX5_init 4 = .ok (.aload_n 0, 1) := by decide +kernel
theorem dX5_init_5 : decode cX5_init 5 = .ok (.new 7, 3) := by decide +kernel
theorem dX5_init_8 : decode cX5_init 8 = .ok (.dup, 1) := by decide +kernel
theorem dX5_init_9 : decode cX5_init 9 = .ok (.invokespecial 9, 3) := by decide +kernel
theorem dX5_init_12 : decode cX5_init 12 = .ok (.putfield 10, 3) := by decide +kernel
theorem dX5_init_15 : decode cX5_init 15 = .ok (.aload_n 0, 1) := by decide +kernel
theorem dX5_init_16 : decode cX5_init 16 = .ok (.new 7, 3) := by decide +kernel
theorem dX5_init_19 : decode cX5_init 19 = .ok (.dup, 1) := by decide +kernel
theorem dX5_init_20 : decode cX5_init 20 = .ok (.invokespecial 9, 3) := by decide +kernel
theorem dX5_init_23 : decode cX5_init 23 = .ok (.putfield 16, 3) := by decide +kernel
theorem dX5_init_26 : decode cX5_init 26 = .ok (.aload_n 0, 1) := by decide +kernel
theorem dX5_init_27 : decode cX5_init 27 = .ok (.new 7, 3) := by decide +kernel
theorem dX5_init_30 : decode cX5_init 30 = .ok (.dup, 1) := by decide +kernel
theorem dX5_init_31 : decode cX5_init 31 = .ok (.invokespecial 9, 3) := by decide +kernel
theorem dX5_init_34 : decode cX5_init 34 = .ok (.putfield 19, 3) := by decide +kernel
theorem dX5_init_37 : decode cX5_init 37 = .ok (.aload_n 0, 1) := by decide +kernel
theorem dX5_init_38 : decode cX5_init 38 = .ok (.bipush 11, 2) := by decide +kernel
theorem dX5_init_40 : decode cX5_init 40 = .ok (.newarray .int, 2) := by decide +kernel
theorem dX5_init_42 : decode cX5_init 42 = .ok (.putfield 22, 3) := by decide +kernel
theorem dX5_init_45 : decode cX5_init 45 = .ok (.aload_n 0, 1) := by decide +kernel
theorem dX5_init_46 : decode cX5_init 46 = .ok (.new 26, 3) := by decide +kernel
theorem dX5_init_49 : decode cX5_init 49 = .ok (.dup, 1) := by decide +kernel
theorem dX5_init_50 : decode cX5_init 50 = .ok (.invokespecial 28, 3) := by decide +kernel
theorem dX5_init_53 : decode cX5_init 53 = .ok (.putfield 29, 3) := by decide +kernel
theorem dX5_init_56 : decode cX5_init 56 = .ok (.aload_n 0, 1) := by decide +kernel
theorem dX5_init_57 : decode cX5_init 57 = .ok (.new 33, 3) := by decide +kernel
theorem dX5_init_60 : decode cX5_init 60 = .ok (.dup, 1) := by decide +kernel
theorem dX5_init_61 : decode cX5_init 61 = .ok (.aload_n 0, 1) := by decide +kernel
theorem dX5_init_62 : decode cX5_init 62 = .ok (.getfield 29, 3) := by decide +kernel
theorem dX5_init_65 : decode cX5_init 65 = .ok (.invokespecial 35, 3) := by decide +kernel
theorem dX5_init_68 : decode cX5_init 68 = .ok (.putfield 38, 3) := by decide +kernel
theorem dX5_init_71 : decode cX5_init 71 = .ok (.aload_n 0, 1) := by decide +kernel
theorem dX5_init_72 : decode cX5_init 72 = .ok (.iconst 4, 1) := by decide +kernel
theorem dX5_init_73 : decode cX5_init 73 = .ok (.anewarray 42, 3) := by decide +kernel
theorem dX5_init_76 : decode cX5_init 76 = .ok (.putfield 44, 3) := by decide +kernel
theorem dX5_init_79 : decode cX5_init 79 = .ok (.aload_n 0, 1) := by decide +kernel
theorem dX5_init_80 : decode cX5_init 80 = .ok (.bipush 7, 2) := by decide +kernel
theorem dX5_init_82 : decode cX5_init 82 = .ok (.newarray .int, 2) := by decide +kernel
theorem dX5_init_84 : decode cX5_init 84 = .ok (.putfield 48, 3) := by decide +kernel
theorem dX5_init_87 : decode cX5_init 87 = .ok (.iconst 0, 1) := by decide +kernel
theorem dX5_init_88 : decode cX5_init 88 = .ok (.istore_n 1, 1) := by decide +kernel
theorem dX5_init_89 : decode cX5_init 89 = .ok (.iload_n 1, 1) := by decide +kernel
theorem dX5_init_90 : decode cX5_init 90 = .ok (.iconst 4, 1) := by decide +kernel
theorem dX5_init_91 : decode cX5_init 91 = .ok (.if_icmp .ge 22, 3) := by decide +kernel
theorem dX5_init_94 : decode cX5_init 94 = .ok (.aload_n 0, 1) := by decide +kernel
theorem dX5_init_95 : decode cX5_init 95 = .ok (.getfield 44, 3) := by decide +kernel
theorem dX5_init_98 : decode cX5_init 98 = .ok (.iload_n 1, 1) := by decide +kernel
theorem dX5_init_99 : decode cX5_init 99 = .ok (.new 42, 3) := by decide +kernel
theorem dX5_init_102 : decode cX5_init 102 = .ok (.dup, 1) := by decide +kernel
theorem dX5_init_103 : decode cX5_init 103 = .ok (.invokespecial 51, 3) := by decide +kernel
theorem dX5_init_106 : decode cX5_init 106 = .ok (.aastore, 1) := by decide +kernel
theorem dX5_init_107 : decode cX5_init 107 = .ok (.iinc 1 1, 3) := by decide +kernel
theorem dX5_init_110 : decode cX5_init 110 = .ok (.goto (-21), 3) := by decide +kernel
theorem dX5_init_113 : decode cX5_init 113 = .ok (.return_, 1) := by decide +kernel
theorem dX5_change_0 : decode cX5_change 0 = .ok (.iload_n 1, 1) := by decide +kernel
theorem dX5_change_1 : decode cX5_change 1 = .ok (.invokestatic 52, 3) := by decide +kernel
theorem dX5_change_4 : decode cX5_change 4 = .ok (.ifCond .eq 22, 3) := by decide +kernel
theorem dX5_change_7 : decode cX5_change 7 = .ok (.iload_n 2, 1) := by decide +kernel
theorem dX5_change_8 : decode cX5_change 8 = .ok (.iconst 5, 1) := by decide +kernel
theorem dX5_change_9 : decode cX5_change 9 = .ok (.invokestatic 56, 3) := by decide +kernel
theorem dX5_change_12 : decode cX5_change 12 = .ok (.ifCond .eq 14, 3) := by decide +kernel
theorem dX5_change_15 : decode cX5_change 15 = .ok (.iload_n 3, 1) := by decide +kernel
theorem dX5_change_16 : decode cX5_change 16 = .ok (.iload_n 2, 1) := by decide +kernel
theorem dX5_change_17 : decode cX5_change 17 = .ok (.invokestatic 60, 3) := by decide +kernel
theorem dX5_change_20 : decode cX5_change 20 = .ok (.invokestatic 56, 3) := by decide +kernel
theorem dX5_change_23 : decode cX5_change 23 = .ok (.ifCond .ne 9, 3) := by decide +kernel
theorem dX5_change_26 : decode cX5_change 26 = .ok (.aload_n 0, 1) := by decide +kernel
theorem dX5_change_27 : decode cX5_change 27 = .ok (.iconst 0, 1) := by decide +kernel
theorem dX5_change_28 : decode cX5_change 28 = .ok (.invokevirtual 64, 3) := by decide +kernel
theorem dX5_change_31 : decode cX5_change 31 = .ok (.ireturn, 1) := by decide +kernel
theorem dX5_change_32 : decode cX5_change 32 = .ok (.aload_n 0, 1) := by decide +kernel
theorem dX5_change_33 : decode cX5_change 33 = .ok (.getfield 10, 3) := by decide +kernel
theorem dX5_change_36 : decode cX5_change 36 = .ok (.iload_n 2, 1) := by decide +kernel
theorem dX5_change_37 : decode cX5_change 37 = .ok (.invokevirtual 67, 3) := by decide +kernel
theorem dX5_change_40 : decode cX5_change 40 = .ok (.astore 4, 2) := by decide +kernel
theorem dX5_change_42 : decode cX5_change 42 = .ok (.aload 4, 2) := by decide +kernel
theorem dX5_change_44 : decode cX5_change 44 = .ok (.iload_n 1, 1) := by decide +kernel
theorem dX5_change_45 : decode cX5_change 45 = .ok (.iaload, 1) := by decide +kernel
theorem dX5_change_46 : decode cX5_change 46 = .ok (.istore 5, 2) := by decide +kernel
theorem dX5_change_48 : decode cX5_change 48 = .ok (.aload 4, 2) := by decide +kernel
theorem dX5_change_50 : decode cX5_change 50 = .ok (.iload_n 1, 1) := by decide +kernel
theorem dX5_change_51 : decode cX5_change 51 = .ok (.iload_n 3, 1) := by decide +kernel
theorem dX5_change_52 : decode cX5_change 52 = .ok (.iastore, 1) := by decide +kernel
theorem dX5_change_53 : decode cX5_change 53 = .ok (.iload 5, 2) := by decide +kernel
theorem dX5_change_55 : decode cX5_change 55 = .ok (.ireturn, 1) := by decide +kernel
theorem dX5_of_0 : decode cX5_of 0 = .ok (.iload_n 1, 1) := by decide +kernel
theorem dX5_of_1 : decode cX5_of 1 = .ok (.invokestatic 52, 3) := by decide +kernel
theorem dX5_of_4 : decode cX5_of 4 = .ok (.ifCond .eq 12, 3) := by decide +kernel
theorem dX5_of_7 : decode cX5_of 7 = .ok (.iload_n 2, 1) := by decide +kernel
theorem dX5_of_8 : decode cX5_of 8 = .ok (.bipush 9, 2) := by decide +kernel
theorem dX5_of_10 : decode cX5_of 10 = .ok (.invokestatic 56, 3) := by decide +kernel
theorem dX5_of_13 : decode cX5_of 13 = .ok (.ifCond .ne 9, 3) := by decide +kernel
theorem dX5_of_16 : decode cX5_of 16 = .ok (.aload_n 0, 1) := by decide +kernel
theorem dX5_of_17 : decode cX5_of 17 = .ok (.iconst 0, 1) := by decide +kernel
theorem dX5_of_18 : decode cX5_of 18 = .ok (.invokevirtual 64, 3) := by decide +kernel
theorem dX5_of_21 : decode cX5_of 21 = .ok (.ireturn, 1) := by decide +kernel
theorem dX5_of_22 : decode cX5_of 22 = .ok (.iload_n 2, 1) := by decide +kernel
theorem dX5_of_23 : decode cX5_of 23 = .ok (.tableswitch 69 6 9 #[29, 38, 47, 60], 29) := by decide +kernel
theorem dX5_of_52 : decode cX5_of 52 = .ok (.aload_n 0, 1) := by decide +kernel
theorem dX5_of_53 : decode cX5_of 53 = .ok (.getfield 10, 3) := by decide +kernel
theorem dX5_of_56 : decode cX5_of 56 = .ok (.iload_n 1, 1) := by decide +kernel
theorem dX5_of_57 : decode cX5_of 57 = .ok (.invokevirtual 71, 3) := by decide +kernel
theorem dX5_of_60 : decode cX5_of 60 = .ok (.ireturn, 1) := by decide +kernel
theorem dX5_of_61 : decode cX5_of 61 = .ok (.aload_n 0, 1) := by decide +kernel
theorem dX5_of_62 : decode cX5_of 62 = .ok (.getfield 10, 3) := by decide +kernel
theorem dX5_of_65 : decode cX5_of 65 = .ok (.iload_n 1, 1) := by decide +kernel
theorem dX5_of_66 : decode cX5_of 66 = .ok (.invokevirtual 74, 3) := by decide +kernel
theorem dX5_of_69 : decode cX5_of 69 = .ok (.ireturn, 1) := by decide +kernel
theorem dX5_of_70 : decode cX5_of 70 = .ok (.aload_n 0, 1) := by decide +kernel
theorem dX5_of_71 : decode cX5_of 71 = .ok (.getfield 10, 3) := by decide +kernel
theorem dX5_of_74 : decode cX5_of 74 = .ok (.getfield 77, 3) := by decide +kernel
theorem dX5_of_77 : decode cX5_of 77 = .ok (.iload_n 1, 1) := by decide +kernel
theorem dX5_of_78 : decode cX5_of 78 = .ok (.iaload, 1) := by decide +kernel
theorem dX5_of_79 : decode cX5_of 79 = .ok (.invokestatic 80, 3) := by decide +kernel
theorem dX5_of_82 : decode cX5_of 82 = .ok (.ireturn, 1) := by decide +kernel
theorem dX5_of_83 : decode cX5_of 83 = .ok (.aload_n 0, 1) := by decide +kernel
theorem dX5_of_84 : decode cX5_of 84 = .ok (.getfield 10, 3) := by decide +kernel
theorem dX5_of_87 : decode cX5_of 87 = .ok (.iload_n 1, 1) := by decide +kernel
theorem dX5_of_88 : decode cX5_of 88 = .ok (.invokevirtual 85, 3) := by decide +kernel
theorem dX5_of_91 : decode cX5_of 91 = .ok (.ireturn, 1) := by decide +kernel
theorem dX5_of_92 : decode cX5_of 92 = .ok (.aload_n 0, 1) := by decide +kernel
theorem dX5_of_93 : decode cX5_of 93 = .ok (.getfield 10, 3) := by decide +kernel
theorem dX5_of_96 : decode cX5_of 96 = .ok (.iload_n 2, 1) := by decide +kernel
theorem dX5_of_97 : decode cX5_of 97 = .ok (.invokevirtual 67, 3) := by decide +kernel
theorem dX5_of_100 : decode cX5_of 100 = .ok (.iload_n 1, 1) := by decide +kernel
theorem dX5_of_101 : decode cX5_of 101 = .ok (.iaload, 1) := by decide +kernel
theorem dX5_of_102 : decode cX5_of 102 = .ok (.ireturn, 1) := by decide +kernel
theorem dX5_rain_0 : decode cX5_rain 0 = .ok (.iload_n 1, 1) := by decide +kernel
theorem dX5_rain_1 : decode cX5_rain 1 = .ok (.sipush 999, 3) := by decide +kernel
theorem dX5_rain_4 : decode cX5_rain 4 = .ok (.invokestatic 56, 3) := by decide +kernel
theorem dX5_rain_7 : decode cX5_rain 7 = .ok (.ifCond .ne 9, 3) := by decide +kernel
theorem dX5_rain_10 : decode cX5_rain 10 = .ok (.aload_n 0, 1) := by decide +kernel
theorem dX5_rain_11 : decode cX5_rain 11 = .ok (.iconst 0, 1) := by decide +kernel
theorem dX5_rain_12 : decode cX5_rain 12 = .ok (.invokevirtual 64, 3) := by decide +kernel
theorem dX5_rain_15 : decode cX5_rain 15 = .ok (.ireturn, 1) := by decide +kernel
theorem dX5_rain_16 : decode cX5_rain 16 = .ok (.aload_n 0, 1) := by decide +kernel
theorem dX5_rain_17 : decode cX5_rain 17 = .ok (.getfield 10, 3) := by decide +kernel
theorem dX5_rain_20 : decode cX5_rain 20 = .ok (.getfield 88, 3) := by decide +kernel
theorem dX5_rain_23 : decode cX5_rain 23 = .ok (.istore_n 2, 1) := by decide +kernel
theorem dX5_rain_24 : decode cX5_rain 24 = .ok (.aload_n 0, 1) := by decide +kernel
theorem dX5_rain_25 : decode cX5_rain 25 = .ok (.getfield 10, 3) := by decide +kernel
theorem dX5_rain_28 : decode cX5_rain 28 = .ok (.iload_n 1, 1) := by decide +kernel
theorem dX5_rain_29 : decode cX5_rain 29 = .ok (.putfield 88, 3) := by decide +kernel
theorem dX5_rain_32 : decode cX5_rain 32 = .ok (.iload_n 2, 1) := by decide +kernel
theorem dX5_rain_33 : decode cX5_rain 33 = .ok (.ireturn, 1) := by decide +kernel
theorem dX5_spouts_0 : decode cX5_spouts 0 = .ok (.iload_n 1, 1) := by decide +kernel
theorem dX5_spouts_1 : decode cX5_spouts 1 = .ok (.sipush 2047, 3) := by decide +kernel
theorem dX5_spouts_4 : decode cX5_spouts 4 = .ok (.invokestatic 56, 3) := by decide +kernel
theorem dX5_spouts_7 : decode cX5_spouts 7 = .ok (.ifCond .ne 9, 3) := by decide +kernel
theorem dX5_spouts_10 : decode cX5_spouts 10 = .ok (.aload_n 0, 1) := by decide +kernel
theorem dX5_spouts_11 : decode cX5_spouts 11 = .ok (.iconst 0, 1) := by decide +kernel
theorem dX5_spouts_12 : decode cX5_spouts 12 = .ok (.invokevirtual 64, 3) := by decide +kernel
theorem dX5_spouts_15 : decode cX5_spouts 15 = .ok (.ireturn, 1) := by decide +kernel
theorem dX5_spouts_16 : decode cX5_spouts 16 = .ok (.aload_n 0, 1) := by decide +kernel
theorem dX5_spouts_17 : decode cX5_spouts 17 = .ok (.getfield 10, 3) := by decide +kernel
theorem dX5_spouts_20 : decode cX5_spouts 20 = .ok (.invokevirtual 92, 3) := by decide +kernel
theorem dX5_spouts_23 : decode cX5_spouts 23 = .ok (.istore_n 2, 1) := by decide +kernel
theorem dX5_spouts_24 : decode cX5_spouts 24 = .ok (.iconst 0, 1) := by decide +kernel
theorem dX5_spouts_25 : decode cX5_spouts 25 = .ok (.istore_n 3, 1) := by decide +kernel
theorem dX5_spouts_26 : decode cX5_spouts 26 = .ok (.iload_n 3, 1) := by decide +kernel
theorem dX5_spouts_27 : decode cX5_spouts 27 = .ok (.bipush 11, 2) := by decide +kernel
theorem dX5_spouts_29 : decode cX5_spouts 29 = .ok (.if_icmp .ge 23, 3) := by decide +kernel
theorem dX5_spouts_32 : decode cX5_spouts 32 = .ok (.aload_n 0, 1) := by decide +kernel
theorem dX5_spouts_33 : decode cX5_spouts 33 = .ok (.getfield 10, 3) := by decide +kernel
theorem dX5_spouts_36 : decode cX5_spouts 36 = .ok (.getfield 96, 3) := by decide +kernel
theorem dX5_spouts_39 : decode cX5_spouts 39 = .ok (.iload_n 3, 1) := by decide +kernel
theorem dX5_spouts_40 : decode cX5_spouts 40 = .ok (.iload_n 1, 1) := by decide +kernel
theorem dX5_spouts_41 : decode cX5_spouts 41 = .ok (.iload_n 3, 1) := by decide +kernel
theorem dX5_spouts_42 : decode cX5_spouts 42 = .ok (.ishr, 1) := by decide +kernel
theorem dX5_spouts_43 : decode cX5_spouts 43 = .ok (.iconst 1, 1) := by decide +kernel
theorem dX5_spouts_44 : decode cX5_spouts 44 = .ok (.iand, 1) := by decide +kernel
theorem dX5_spouts_45 : decode cX5_spouts 45 = .ok (.iastore, 1) := by decide +kernel
theorem dX5_spouts_46 : decode cX5_spouts 46 = .ok (.iinc 3 1, 3) := by decide +kernel
theorem dX5_spouts_49 : decode cX5_spouts 49 = .ok (.goto (-23), 3) := by decide +kernel
theorem dX5_spouts_52 : decode cX5_spouts 52 = .ok (.iload_n 2, 1) := by decide +kernel
theorem dX5_spouts_53 : decode cX5_spouts 53 = .ok (.ireturn, 1) := by decide +kernel
theorem dX5_pour_0 : decode cX5_pour 0 = .ok (.iload_n 1, 1) := by decide +kernel
theorem dX5_pour_1 : decode cX5_pour 1 = .ok (.invokestatic 52, 3) := by decide +kernel
theorem dX5_pour_4 : decode cX5_pour 4 = .ok (.ifCond .eq 13, 3) := by decide +kernel
theorem dX5_pour_7 : decode cX5_pour 7 = .ok (.iload_n 2, 1) := by decide +kernel
theorem dX5_pour_8 : decode cX5_pour 8 = .ok (.sipush 9999, 3) := by decide +kernel
theorem dX5_pour_11 : decode cX5_pour 11 = .ok (.invokestatic 56, 3) := by decide +kernel
theorem dX5_pour_14 : decode cX5_pour 14 = .ok (.ifCond .ne 9, 3) := by decide +kernel
theorem dX5_pour_17 : decode cX5_pour 17 = .ok (.aload_n 0, 1) := by decide +kernel
theorem dX5_pour_18 : decode cX5_pour 18 = .ok (.iconst 0, 1) := by decide +kernel
theorem dX5_pour_19 : decode cX5_pour 19 = .ok (.invokevirtual 64, 3) := by decide +kernel
theorem dX5_pour_22 : decode cX5_pour 22 = .ok (.ireturn, 1) := by decide +kernel
theorem dX5_pour_23 : decode cX5_pour 23 = .ok (.aload_n 0, 1) := by decide +kernel
theorem dX5_pour_24 : decode cX5_pour 24 = .ok (.getfield 10, 3) := by decide +kernel
theorem dX5_pour_27 : decode cX5_pour 27 = .ok (.iload_n 1, 1) := by decide +kernel
theorem dX5_pour_28 : decode cX5_pour 28 = .ok (.iload_n 2, 1) := by decide +kernel
theorem dX5_pour_29 : decode cX5_pour 29 = .ok (.invokevirtual 99, 3) := by decide +kernel
theorem dX5_pour_32 : decode cX5_pour 32 = .ok (.aload_n 0, 1) := by decide +kernel
theorem dX5_pour_33 : decode cX5_pour 33 = .ok (.getfield 10, 3) := by decide +kernel
theorem dX5_pour_36 : decode cX5_pour 36 = .ok (.getfield 103, 3) := by decide +kernel
theorem dX5_pour_39 : decode cX5_pour 39 = .ok (.iload_n 1, 1) := by decide +kernel
theorem dX5_pour_40 : decode cX5_pour 40 = .ok (.iaload, 1) := by decide +kernel
theorem dX5_pour_41 : decode cX5_pour 41 = .ok (.ireturn, 1) := by decide +kernel
theorem dX5_go_0 : decode cX5_go 0 = .ok (.iload_n 1, 1) := by decide +kernel
theorem dX5_go_1 : decode cX5_go 1 = .ok (.iconst 1, 1) := by decide +kernel
theorem dX5_go_2 : decode cX5_go 2 = .ok (.if_icmp .lt 9, 3) := by decide +kernel
theorem dX5_go_5 : decode cX5_go 5 = .ok (.iload_n 1, 1) := by decide +kernel
theorem dX5_go_6 : decode cX5_go 6 = .ok (.bipush 60, 2) := by decide +kernel
theorem dX5_go_8 : decode cX5_go 8 = .ok (.if_icmp .le 9, 3) := by decide +kernel
theorem dX5_go_11 : decode cX5_go 11 = .ok (.aload_n 0, 1) := by decide +kernel
theorem dX5_go_12 : decode cX5_go 12 = .ok (.iconst 0, 1) := by decide +kernel
theorem dX5_go_13 : decode cX5_go 13 = .ok (.invokevirtual 64, 3) := by decide +kernel
theorem dX5_go_16 : decode cX5_go 16 = .ok (.ireturn, 1) := by decide +kernel
theorem dX5_go_17 : decode cX5_go 17 = .ok (.aload_n 0, 1) := by decide +kernel
theorem dX5_go_18 : decode cX5_go 18 = .ok (.getfield 10, 3) := by decide +kernel
theorem dX5_go_21 : decode cX5_go 21 = .ok (.getfield 106, 3) := by decide +kernel
theorem dX5_go_24 : decode cX5_go 24 = .ok (.iload_n 1, 1) := by decide +kernel
theorem dX5_go_25 : decode cX5_go 25 = .ok (.iadd, 1) := by decide +kernel
theorem dX5_go_26 : decode cX5_go 26 = .ok (.ldc 109, 2) := by decide +kernel
theorem dX5_go_28 : decode cX5_go 28 = .ok (.if_icmp .le 9, 3) := by decide +kernel
theorem dX5_go_31 : decode cX5_go 31 = .ok (.aload_n 0, 1) := by decide +kernel
theorem dX5_go_32 : decode cX5_go 32 = .ok (.iconst 4, 1) := by decide +kernel
theorem dX5_go_33 : decode cX5_go 33 = .ok (.invokevirtual 64, 3) := by decide +kernel
theorem dX5_go_36 : decode cX5_go 36 = .ok (.ireturn, 1) := by decide +kernel
theorem dX5_go_37 : decode cX5_go 37 = .ok (.aload_n 0, 1) := by decide +kernel
theorem dX5_go_38 : decode cX5_go 38 = .ok (.getfield 10, 3) := by decide +kernel
theorem dX5_go_41 : decode cX5_go 41 = .ok (.iload_n 1, 1) := by decide +kernel
theorem dX5_go_42 : decode cX5_go 42 = .ok (.bipush 10, 2) := by decide +kernel
theorem dX5_go_44 : decode cX5_go 44 = .ok (.invokevirtual 110, 3) := by decide +kernel
theorem dX5_go_47 : decode cX5_go 47 = .ok (.pop, 1) := by decide +kernel
theorem dX5_go_48 : decode cX5_go 48 = .ok (.aload_n 0, 1) := by decide +kernel
theorem dX5_go_49 : decode cX5_go 49 = .ok (.getfield 10, 3) := by decide +kernel
theorem dX5_go_52 : decode cX5_go 52 = .ok (.getfield 114, 3) := by decide +kernel
theorem dX5_go_55 : decode cX5_go 55 = .ok (.ireturn, 1) := by decide +kernel
theorem dX5_now_0 : decode cX5_now 0 = .ok (.iload_n 1, 1) := by decide +kernel
theorem dX5_now_1 : decode cX5_now 1 = .ok (.tableswitch 99 0 6 #[43, 51, 59, 67, 75, 83, 91], 43) := by decide +kernel
theorem dX5_now_44 : decode cX5_now 44 = .ok (.aload_n 0, 1) := by decide +kernel
theorem dX5_now_45 : decode cX5_now 45 = .ok (.getfield 10, 3) := by decide +kernel
theorem dX5_now_48 : decode cX5_now 48 = .ok (.getfield 106, 3) := by decide +kernel
theorem dX5_now_51 : decode cX5_now 51 = .ok (.ireturn, 1) := by decide +kernel
theorem dX5_now_52 : decode cX5_now 52 = .ok (.aload_n 0, 1) := by decide +kernel
theorem dX5_now_53 : decode cX5_now 53 = .ok (.getfield 10, 3) := by decide +kernel
theorem dX5_now_56 : decode cX5_now 56 = .ok (.invokevirtual 117, 3) := by decide +kernel
theorem dX5_now_59 : decode cX5_now 59 = .ok (.ireturn, 1) := by decide +kernel
theorem dX5_now_60 : decode cX5_now 60 = .ok (.aload_n 0, 1) := by decide +kernel
theorem dX5_now_61 : decode cX5_now 61 = .ok (.getfield 10, 3) := by decide +kernel
theorem dX5_now_64 : decode cX5_now 64 = .ok (.getfield 114, 3) := by decide +kernel
theorem dX5_now_67 : decode cX5_now 67 = .ok (.ireturn, 1) := by decide +kernel
theorem dX5_now_68 : decode cX5_now 68 = .ok (.aload_n 0, 1) := by decide +kernel
theorem dX5_now_69 : decode cX5_now 69 = .ok (.getfield 10, 3) := by decide +kernel
theorem dX5_now_72 : decode cX5_now 72 = .ok (.getfield 120, 3) := by decide +kernel
theorem dX5_now_75 : decode cX5_now 75 = .ok (.ireturn, 1) := by decide +kernel
theorem dX5_now_76 : decode cX5_now 76 = .ok (.aload_n 0, 1) := by decide +kernel
theorem dX5_now_77 : decode cX5_now 77 = .ok (.getfield 10, 3) := by decide +kernel
theorem dX5_now_80 : decode cX5_now 80 = .ok (.invokevirtual 123, 3) := by decide +kernel
theorem dX5_now_83 : decode cX5_now 83 = .ok (.ireturn, 1) := by decide +kernel
theorem dX5_now_84 : decode cX5_now 84 = .ok (.aload_n 0, 1) := by decide +kernel
theorem dX5_now_85 : decode cX5_now 85 = .ok (.getfield 10, 3) := by decide +kernel
theorem dX5_now_88 : decode cX5_now 88 = .ok (.invokevirtual 92, 3) := by decide +kernel
theorem dX5_now_91 : decode cX5_now 91 = .ok (.ireturn, 1) := by decide +kernel
theorem dX5_now_92 : decode cX5_now 92 = .ok (.aload_n 0, 1) := by decide +kernel
theorem dX5_now_93 : decode cX5_now 93 = .ok (.getfield 10, 3) := by decide +kernel
theorem dX5_now_96 : decode cX5_now 96 = .ok (.getfield 88, 3) := by decide +kernel
theorem dX5_now_99 : decode cX5_now 99 = .ok (.ireturn, 1) := by decide +kernel
theorem dX5_now_100 : decode cX5_now 100 = .ok (.aload_n 0, 1) := by decide +kernel
theorem dX5_now_101 : decode cX5_now 101 = .ok (.iconst 0, 1) := by decide +kernel
theorem dX5_now_102 : decode cX5_now 102 = .ok (.invokevirtual 64, 3) := by decide +kernel
theorem dX5_now_105 : decode cX5_now 105 = .ok (.ireturn, 1) := by decide +kernel
theorem dX5_ahead_0 : decode cX5_ahead 0 = .ok (.iload_n 1, 1) := by decide +kernel
theorem dX5_ahead_1 : decode cX5_ahead 1 = .ok (.invokestatic 52, 3) := by decide +kernel
theorem dX5_ahead_4 : decode cX5_ahead 4 = .ok (.ifCond .eq 22, 3) := by decide +kernel
theorem dX5_ahead_7 : decode cX5_ahead 7 = .ok (.iload_n 2, 1) := by decide +kernel
theorem dX5_ahead_8 : decode cX5_ahead 8 = .ok (.iconst 1, 1) := by decide +kernel
theorem dX5_ahead_9 : decode cX5_ahead 9 = .ok (.if_icmp .eq 8, 3) := by decide +kernel
theorem dX5_ahead_12 : decode cX5_ahead 12 = .ok (.iload_n 2, 1) := by decide +kernel
theorem dX5_ahead_13 : decode cX5_ahead 13 = .ok (.iconst 5, 1) := by decide +kernel
theorem dX5_ahead_14 : decode cX5_ahead 14 = .ok (.if_icmp .ne 12, 3) := by decide +kernel
theorem dX5_ahead_17 : decode cX5_ahead 17 = .ok (.iload_n 3, 1) := by decide +kernel
theorem dX5_ahead_18 : decode cX5_ahead 18 = .ok (.bipush 100, 2) := by decide +kernel
theorem dX5_ahead_20 : decode cX5_ahead 20 = .ok (.invokestatic 56, 3) := by decide +kernel
theorem dX5_ahead_23 : decode cX5_ahead 23 = .ok (.ifCond .ne 9, 3) := by decide +kernel
theorem dX5_ahead_26 : decode cX5_ahead 26 = .ok (.aload_n 0, 1) := by decide +kernel
theorem dX5_ahead_27 : decode cX5_ahead 27 = .ok (.iconst 0, 1) := by decide +kernel
theorem dX5_ahead_28 : decode cX5_ahead 28 = .ok (.invokevirtual 64, 3) := by decide +kernel
theorem dX5_ahead_31 : decode cX5_ahead 31 = .ok (.ireturn, 1) := by decide +kernel
theorem dX5_ahead_32 : decode cX5_ahead 32 = .ok (.aload_n 0, 1) := by decide +kernel
theorem dX5_ahead_33 : decode cX5_ahead 33 = .ok (.getfield 19, 3) := by decide +kernel
theorem dX5_ahead_36 : decode cX5_ahead 36 = .ok (.aload_n 0, 1) := by decide +kernel
theorem dX5_ahead_37 : decode cX5_ahead 37 = .ok (.getfield 10, 3) := by decide +kernel
theorem dX5_ahead_40 : decode cX5_ahead 40 = .ok (.invokevirtual 126, 3) := by decide +kernel
theorem dX5_ahead_43 : decode cX5_ahead 43 = .ok (.aload_n 0, 1) := by decide +kernel
theorem dX5_ahead_44 : decode cX5_ahead 44 = .ok (.getfield 19, 3) := by decide +kernel
theorem dX5_ahead_47 : decode cX5_ahead 47 = .ok (.iload_n 3, 1) := by decide +kernel
theorem dX5_ahead_48 : decode cX5_ahead 48 = .ok (.iload_n 1, 1) := by decide +kernel
theorem dX5_ahead_49 : decode cX5_ahead 49 = .ok (.invokevirtual 110, 3) := by decide +kernel
theorem dX5_ahead_52 : decode cX5_ahead 52 = .ok (.pop, 1) := by decide +kernel
theorem dX5_ahead_53 : decode cX5_ahead 53 = .ok (.aload_n 0, 1) := by decide +kernel
theorem dX5_ahead_54 : decode cX5_ahead 54 = .ok (.getfield 19, 3) := by decide +kernel
theorem dX5_ahead_57 : decode cX5_ahead 57 = .ok (.iload_n 2, 1) := by decide +kernel
theorem dX5_ahead_58 : decode cX5_ahead 58 = .ok (.invokevirtual 67, 3) := by decide +kernel
theorem dX5_ahead_61 : decode cX5_ahead 61 = .ok (.iload_n 1, 1) := by decide +kernel
theorem dX5_ahead_62 : decode cX5_ahead 62 = .ok (.iaload, 1) := by decide +kernel
theorem dX5_ahead_63 : decode cX5_ahead 63 = .ok (.ireturn, 1) := by decide +kernel
theorem dX5_alley_0 : decode cX5_alley 0 = .ok (.iload_n 1, 1) := by decide +kernel
theorem dX5_alley_1 : decode cX5_alley 1 = .ok (.bipush 100, 2) := by decide +kernel
theorem dX5_alley_3 : decode cX5_alley 3 = .ok (.invokestatic 56, 3) := by decide +kernel
theorem dX5_alley_6 : decode cX5_alley 6 = .ok (.ifCond .ne 9, 3) := by decide +kernel
theorem dX5_alley_9 : decode cX5_alley 9 = .ok (.aload_n 0, 1) := by decide +kernel
theorem dX5_alley_10 : decode cX5_alley 10 = .ok (.iconst 0, 1) := by decide +kernel
theorem dX5_alley_11 : decode cX5_alley 11 = .ok (.invokevirtual 64, 3) := by decide +kernel
theorem dX5_alley_14 : decode cX5_alley 14 = .ok (.ireturn, 1) := by decide +kernel
theorem dX5_alley_15 : decode cX5_alley 15 = .ok (.aload_n 0, 1) := by decide +kernel
theorem dX5_alley_16 : decode cX5_alley 16 = .ok (.getfield 19, 3) := by decide +kernel
theorem dX5_alley_19 : decode cX5_alley 19 = .ok (.aload_n 0, 1) := by decide +kernel
theorem dX5_alley_20 : decode cX5_alley 20 = .ok (.getfield 10, 3) := by decide +kernel
theorem dX5_alley_23 : decode cX5_alley 23 = .ok (.invokevirtual 126, 3) := by decide +kernel
theorem dX5_alley_26 : decode cX5_alley 26 = .ok (.aload_n 0, 1) := by decide +kernel
theorem dX5_alley_27 : decode cX5_alley 27 = .ok (.getfield 19, 3) := by decide +kernel
theorem dX5_alley_30 : decode cX5_alley 30 = .ok (.iload_n 1, 1) := by decide +kernel
theorem dX5_alley_31 : decode cX5_alley 31 = .ok (.bipush 10, 2) := by decide +kernel
theorem dX5_alley_33 : decode cX5_alley 33 = .ok (.invokevirtual 110, 3) := by decide +kernel
theorem dX5_alley_36 : decode cX5_alley 36 = .ok (.pop, 1) := by decide +kernel
theorem dX5_alley_37 : decode cX5_alley 37 = .ok (.aload_n 0, 1) := by decide +kernel
theorem dX5_alley_38 : decode cX5_alley 38 = .ok (.getfield 19, 3) := by decide +kernel
theorem dX5_alley_41 : decode cX5_alley 41 = .ok (.getfield 114, 3) := by decide +kernel
theorem dX5_alley_44 : decode cX5_alley 44 = .ok (.ireturn, 1) := by decide +kernel
theorem dX5_dry_0 : decode cX5_dry 0 = .ok (.iload_n 1, 1) := by decide +kernel
theorem dX5_dry_1 : decode cX5_dry 1 = .ok (.bipush 100, 2) := by decide +kernel
theorem dX5_dry_3 : decode cX5_dry 3 = .ok (.invokestatic 56, 3) := by decide +kernel
theorem dX5_dry_6 : decode cX5_dry 6 = .ok (.ifCond .ne 9, 3) := by decide +kernel
theorem dX5_dry_9 : decode cX5_dry 9 = .ok (.aload_n 0, 1) := by decide +kernel
theorem dX5_dry_10 : decode cX5_dry 10 = .ok (.iconst 0, 1) := by decide +kernel
theorem dX5_dry_11 : decode cX5_dry 11 = .ok (.invokevirtual 64, 3) := by decide +kernel
theorem dX5_dry_14 : decode cX5_dry 14 = .ok (.ireturn, 1) := by decide +kernel
theorem dX5_dry_15 : decode cX5_dry 15 = .ok (.aload_n 0, 1) := by decide +kernel

theorem dX0_isUnder_0 : decode cX0_isUnder 0 = .ok (.iload_n 0, 1) := by decide +kernel
theorem dX0_isUnder_1 : decode cX0_isUnder 1 = .ok (.istore_n 2, 1) := by decide +kernel
theorem dX0_isUnder_2 : decode cX0_isUnder 2 = .ok (.iconst 0, 1) := by decide +kernel
theorem dX0_isUnder_3 : decode cX0_isUnder 3 = .ok (.istore_n 3, 1) := by decide +kernel
theorem dX0_isUnder_4 : decode cX0_isUnder 4 = .ok (.iload_n 3, 1) := by decide +kernel
theorem dX0_isUnder_5 : decode cX0_isUnder 5 = .ok (.bipush 7, 2) := by decide +kernel
theorem dX0_isUnder_7 : decode cX0_isUnder 7 = .ok (.if_icmp .ge 26, 3) := by decide +kernel
theorem dX0_isUnder_10 : decode cX0_isUnder 10 = .ok (.iload_n 2, 1) := by decide +kernel
theorem dX0_isUnder_11 : decode cX0_isUnder 11 = .ok (.ifCond .lt 22, 3) := by decide +kernel
theorem dX0_isUnder_14 : decode cX0_isUnder 14 = .ok (.iload_n 2, 1) := by decide +kernel
theorem dX0_isUnder_15 : decode cX0_isUnder 15 = .ok (.iload_n 1, 1) := by decide +kernel
theorem dX0_isUnder_16 : decode cX0_isUnder 16 = .ok (.if_icmp .ne 5, 3) := by decide +kernel
theorem dX0_isUnder_19 : decode cX0_isUnder 19 = .ok (.iconst 1, 1) := by decide +kernel
theorem dX0_isUnder_20 : decode cX0_isUnder 20 = .ok (.ireturn, 1) := by decide +kernel
theorem dX0_isUnder_21 : decode cX0_isUnder 21 = .ok (.getstatic 9, 3) := by decide +kernel
theorem dX0_isUnder_24 : decode cX0_isUnder 24 = .ok (.iload_n 2, 1) := by decide +kernel
theorem dX0_isUnder_25 : decode cX0_isUnder 25 = .ok (.iaload, 1) := by decide +kernel
theorem dX0_isUnder_26 : decode cX0_isUnder 26 = .ok (.istore_n 2, 1) := by decide +kernel
theorem dX0_isUnder_27 : decode cX0_isUnder 27 = .ok (.iinc 3 1, 3) := by decide +kernel
theorem dX0_isUnder_30 : decode cX0_isUnder 30 = .ok (.goto (-26), 3) := by decide +kernel
theorem dX0_isUnder_33 : decode cX0_isUnder 33 = .ok (.iconst 0, 1) := by decide +kernel
theorem dX0_isUnder_34 : decode cX0_isUnder 34 = .ok (.ireturn, 1) := by decide +kernel
theorem dX0_using_0 : decode cX0_using 0 = .ok (.iload_n 2, 1) := by decide +kernel
theorem dX0_using_1 : decode cX0_using 1 = .ok (.iconst 2, 1) := by decide +kernel
theorem dX0_using_2 : decode cX0_using 2 = .ok (.irem, 1) := by decide +kernel
theorem dX0_using_3 : decode cX0_using 3 = .ok (.ifCond .ne 7, 3) := by decide +kernel
theorem dX0_using_6 : decode cX0_using 6 = .ok (.iload_n 1, 1) := by decide +kernel
theorem dX0_using_7 : decode cX0_using 7 = .ok (.goto 4, 3) := by decide +kernel
theorem dX0_using_10 : decode cX0_using 10 = .ok (.iconst 0, 1) := by decide +kernel
theorem dX0_using_11 : decode cX0_using 11 = .ok (.istore_n 3, 1) := by decide +kernel
theorem dX0_using_12 : decode cX0_using 12 = .ok (.iconst 0, 1) := by decide +kernel
theorem dX0_using_13 : decode cX0_using 13 = .ok (.iconst 2, 1) := by decide +kernel
theorem dX0_using_14 : decode cX0_using 14 = .ok (.iload_n 1, 1) := by decide +kernel
theorem dX0_using_15 : decode cX0_using 15 = .ok (.imul, 1) := by decide +kernel
theorem dX0_using_16 : decode cX0_using 16 = .ok (.iconst 3, 1) := by decide +kernel
theorem dX0_using_17 : decode cX0_using 17 = .ok (.isub, 1) := by decide +kernel
theorem dX0_using_18 : decode cX0_using 18 = .ok (.invokestatic 13, 3) := by decide +kernel
theorem dX0_using_21 : decode cX0_using 21 = .ok (.istore 4, 2) := by decide +kernel
theorem dX0_using_23 : decode cX0_using 23 = .ok (.iload_n 0, 1) := by decide +kernel
theorem dX0_using_24 : decode cX0_using 24 = .ok (.tableswitch 68 1 6 #[40, 46, 50, 53, 68, 42], 40) := by decide +kernel
theorem dX0_using_64 : decode cX0_using 64 = .ok (.iload_n 3, 1) := by decide +kernel
theorem dX0_using_65 : decode cX0_using 65 = .ok (.ireturn, 1) := by decide +kernel
theorem dX0_using_66 : decode cX0_using 66 = .ok (.iload_n 3, 1) := by decide +kernel
theorem dX0_using_67 : decode cX0_using 67 = .ok (.iconst 1, 1) := by decide +kernel
theorem dX0_using_68 : decode cX0_using 68 = .ok (.iadd, 1) := by decide +kernel
theorem dX0_using_69 : decode cX0_using 69 = .ok (.ireturn, 1) := by decide +kernel
theorem dX0_using_70 : decode cX0_using 70 = .ok (.iconst 2, 1) := by decide +kernel
theorem dX0_using_71 : decode cX0_using 71 = .ok (.iload_n 1, 1) := by decide +kernel
theorem dX0_using_72 : decode cX0_using 72 = .ok (.imul, 1) := by decide +kernel
theorem dX0_using_73 : decode cX0_using 73 = .ok (.ireturn, 1) := by decide +kernel
theorem dX0_using_74 : decode cX0_using 74 = .ok (.iload 4, 2) := by decide +kernel
theorem dX0_using_76 : decode cX0_using 76 = .ok (.ireturn, 1) := by decide +kernel
theorem dX0_using_77 : decode cX0_using 77 = .ok (.iload_n 2, 1) := by decide +kernel
theorem dX0_using_78 : decode cX0_using 78 = .ok (.bipush 6, 2) := by decide +kernel
theorem dX0_using_80 : decode cX0_using 80 = .ok (.irem, 1) := by decide +kernel
theorem dX0_using_81 : decode cX0_using 81 = .ok (.iconst 5, 1) := by decide +kernel
theorem dX0_using_82 : decode cX0_using 82 = .ok (.if_icmp .ne 8, 3) := by decide +kernel
theorem dX0_using_85 : decode cX0_using 85 = .ok (.iload 4, 2) := by decide +kernel
theorem dX0_using_87 : decode cX0_using 87 = .ok (.goto 4, 3) := by decide +kernel
theorem dX0_using_90 : decode cX0_using 90 = .ok (.iconst 0, 1) := by decide +kernel
theorem dX0_using_91 : decode cX0_using 91 = .ok (.ireturn, 1) := by decide +kernel
theorem dX0_using_92 : decode cX0_using 92 = .ok (.iload_n 1, 1) := by decide +kernel
theorem dX0_using_93 : decode cX0_using 93 = .ok (.ireturn, 1) := by decide +kernel
theorem dX0_keeping_0 : decode cX0_keeping 0 = .ok (.iload_n 0, 1) := by decide +kernel
theorem dX0_keeping_1 : decode cX0_keeping 1 = .ok (.tableswitch 50 2 6 #[40, 44, 44, 50, 35], 35) := by decide +kernel
theorem dX0_keeping_36 : decode cX0_keeping 36 = .ok (.iload_n 1, 1) := by decide +kernel
theorem dX0_keeping_37 : decode cX0_keeping 37 = .ok (.bipush 10, 2) := by decide +kernel
theorem dX0_keeping_39 : decode cX0_keeping 39 = .ok (.iadd, 1) := by decide +kernel
theorem dX0_keeping_40 : decode cX0_keeping 40 = .ok (.ireturn, 1) := by decide +kernel
theorem dX0_keeping_41 : decode cX0_keeping 41 = .ok (.iload_n 1, 1) := by decide +kernel
theorem dX0_keeping_42 : decode cX0_keeping 42 = .ok (.iconst 2, 1) := by decide +kernel
theorem dX0_keeping_43 : decode cX0_keeping 43 = .ok (.idiv, 1) := by decide +kernel
theorem dX0_keeping_44 : decode cX0_keeping 44 = .ok (.ireturn, 1) := by decide +kernel
theorem dX0_keeping_45 : decode cX0_keeping 45 = .ok (.iload_n 1, 1) := by decide +kernel
theorem dX0_keeping_46 : decode cX0_keeping 46 = .ok (.iconst 2, 1) := by decide +kernel
theorem dX0_keeping_47 : decode cX0_keeping 47 = .ok (.idiv, 1) := by decide +kernel
theorem dX0_keeping_48 : decode cX0_keeping 48 = .ok (.iload_n 2, 1) := by decide +kernel
theorem dX0_keeping_49 : decode cX0_keeping 49 = .ok (.iadd, 1) := by decide +kernel
theorem dX0_keeping_50 : decode cX0_keeping 50 = .ok (.ireturn, 1) := by decide +kernel
theorem dX0_keeping_51 : decode cX0_keeping 51 = .ok (.iload_n 1, 1) := by decide +kernel
theorem dX0_keeping_52 : decode cX0_keeping 52 = .ok (.ireturn, 1) := by decide +kernel
theorem dX0_losing_0 : decode cX0_losing 0 = .ok (.iload_n 0, 1) := by decide +kernel
theorem dX0_losing_1 : decode cX0_losing 1 = .ok (.tableswitch 35 2 5 #[33, 33, 33, 31], 31) := by decide +kernel
theorem dX0_losing_32 : decode cX0_losing 32 = .ok (.iconst 5, 1) := by decide +kernel
theorem dX0_losing_33 : decode cX0_losing 33 = .ok (.ireturn, 1) := by decide +kernel
theorem dX0_losing_34 : decode cX0_losing 34 = .ok (.iconst 1, 1) := by decide +kernel
theorem dX0_losing_35 : decode cX0_losing 35 = .ok (.ireturn, 1) := by decide +kernel
theorem dX0_losing_36 : decode cX0_losing 36 = .ok (.iconst 0, 1) := by decide +kernel
theorem dX0_losing_37 : decode cX0_losing 37 = .ok (.ireturn, 1) := by decide +kernel
set_option maxRecDepth 20000 in
theorem ggX1_init_J7_fill_53178 : GoodIn wsX1_init wsJ7_fill_53178 := goodIn_r _ [17] (by decide +kernel) (by decide +kernel)
set_option maxRecDepth 20000 in
theorem gX1_init_J7_fill_53178 : GoodIn wsX1_init (va_wsS RX1 40 yJ7_fill_53178 wsJ7_fill_53178) := goodIn_app (goodIn_of _ (by decide +kernel)) ggX1_init_J7_fill_53178
theorem dX1_init_0 : decode cX1_init 0 = .ok (.aload_n 0, 1) := by decide +kernel
theorem dX1_init_1 : decode cX1_init 1 = .ok (.invokespecial 3, 3) := by decide +kernel
theorem dX1_init_4 : decode cX1_init 4 = .ok (.aload_n 0, 1) := by decide +kernel
theorem dX1_init_5 : decode cX1_init 5 = .ok (.bipush 11, 2) := by decide +kernel
theorem dX1_init_7 : decode cX1_init 7 = .ok (.newarray .int, 2) := by decide +kernel
theorem dX1_init_9 : decode cX1_init 9 = .ok (.putfield 9, 3) := by decide +kernel
theorem dX1_init_12 : decode cX1_init 12 = .ok (.aload_n 0, 1) := by decide +kernel
theorem dX1_init_13 : decode cX1_init 13 = .ok (.bipush 11, 2) := by decide +kernel
theorem dX1_init_15 : decode cX1_init 15 = .ok (.newarray .int, 2) := by decide +kernel
theorem dX1_init_17 : decode cX1_init 17 = .ok (.putfield 15, 3) := by decide +kernel
theorem dX1_init_20 : decode cX1_init 20 = .ok (.aload_n 0, 1) := by decide +kernel
theorem dX1_init_21 : decode cX1_init 21 = .ok (.bipush 11, 2) := by decide +kernel
theorem dX1_init_23 : decode cX1_init 23 = .ok (.newarray .int, 2) := by decide +kernel
theorem dX1_init_25 : decode cX1_init 25 = .ok (.putfield 18, 3) := by decide +kernel
theorem dX1_init_28 : decode cX1_init 28 = .ok (.aload_n 0, 1) := by decide +kernel
theorem dX1_init_29 : decode cX1_init 29 = .ok (.bipush 11, 2) := by decide +kernel
theorem dX1_init_31 : decode cX1_init 31 = .ok (.newarray .int, 2) := by decide +kernel
theorem dX1_init_33 : decode cX1_init 33 = .ok (.putfield 21, 3) := by decide +kernel
theorem dX1_init_36 : decode cX1_init 36 = .ok (.aload_n 0, 1) := by decide +kernel
theorem dX1_init_37 : decode cX1_init 37 = .ok (.bipush 11, 2) := by decide +kernel
theorem dX1_init_39 : decode cX1_init 39 = .ok (.newarray .int, 2) := by decide +kernel
theorem dX1_init_41 : decode cX1_init 41 = .ok (.putfield 24, 3) := by decide +kernel
theorem dX1_init_44 : decode cX1_init 44 = .ok (.aload_n 0, 1) := by decide +kernel
theorem dX1_init_45 : decode cX1_init 45 = .ok (.bipush 11, 2) := by decide +kernel
theorem dX1_init_47 : decode cX1_init 47 = .ok (.newarray .int, 2) := by decide +kernel
theorem dX1_init_49 : decode cX1_init 49 = .ok (.putfield 27, 3) := by decide +kernel
theorem dX1_init_52 : decode cX1_init 52 = .ok (.aload_n 0, 1) := by decide +kernel
theorem dX1_init_53 : decode cX1_init 53 = .ok (.bipush 10, 2) := by decide +kernel
theorem dX1_init_55 : decode cX1_init 55 = .ok (.newarray .int, 2) := by decide +kernel
theorem dX1_init_57 : decode cX1_init 57 = .ok (.putfield 30, 3) := by decide +kernel
theorem dX1_init_60 : decode cX1_init 60 = .ok (.aload_n 0, 1) := by decide +kernel
theorem dX1_init_61 : decode cX1_init 61 = .ok (.bipush 20, 2) := by decide +kernel
theorem dX1_init_63 : decode cX1_init 63 = .ok (.putfield 33, 3) := by decide +kernel
theorem dX1_init_66 : decode cX1_init 66 = .ok (.aload_n 0, 1) := by decide +kernel
theorem dX1_init_67 : decode cX1_init 67 = .ok (.iconst 1, 1) := by decide +kernel
theorem dX1_init_68 : decode cX1_init 68 = .ok (.putfield 37, 3) := by decide +kernel
theorem dX1_init_71 : decode cX1_init 71 = .ok (.aload_n 0, 1) := by decide +kernel
theorem dX1_init_72 : decode cX1_init 72 = .ok (.getfield 18, 3) := by decide +kernel
theorem dX1_init_75 : decode cX1_init 75 = .ok (.iconst 2, 1) := by decide +kernel
theorem dX1_init_76 : decode cX1_init 76 = .ok (.invokestatic 40, 3) := by decide +kernel
theorem dX1_init_79 : decode cX1_init 79 = .ok (.aload_n 0, 1) := by decide +kernel
theorem dX1_init_80 : decode cX1_init 80 = .ok (.getfield 21, 3) := by decide +kernel
theorem dX1_init_83 : decode cX1_init 83 = .ok (.bipush 10, 2) := by decide +kernel
theorem dX1_init_85 : decode cX1_init 85 = .ok (.invokestatic 40, 3) := by decide +kernel
theorem dX1_init_88 : decode cX1_init 88 = .ok (.aload_n 0, 1) := by decide +kernel
theorem dX1_init_89 : decode cX1_init 89 = .ok (.getfield 30, 3) := by decide +kernel
theorem dX1_init_92 : decode cX1_init 92 = .ok (.iconst (-1), 1) := by decide +kernel
theorem dX1_init_93 : decode cX1_init 93 = .ok (.invokestatic 40, 3) := by decide +kernel
theorem dX1_init_96 : decode cX1_init 96 = .ok (.return_, 1) := by decide +kernel
theorem dX1_become_0 : decode cX1_become 0 = .ok (.aload_n 1, 1) := by decide +kernel
theorem dX1_become_1 : decode cX1_become 1 = .ok (.getfield 9, 3) := by decide +kernel
theorem dX1_become_4 : decode cX1_become 4 = .ok (.iconst 0, 1) := by decide +kernel
theorem dX1_become_5 : decode cX1_become 5 = .ok (.aload_n 0, 1) := by decide +kernel
theorem dX1_become_6 : decode cX1_become 6 = .ok (.getfield 9, 3) := by decide +kernel
theorem dX1_become_9 : decode cX1_become 9 = .ok (.iconst 0, 1) := by decide +kernel
theorem dX1_become_10 : decode cX1_become 10 = .ok (.bipush 11, 2) := by decide +kernel
theorem dX1_become_12 : decode cX1_become 12 = .ok (.invokestatic 46, 3) := by decide +kernel
theorem dX1_become_15 : decode cX1_become 15 = .ok (.aload_n 1, 1) := by decide +kernel
theorem dX1_become_16 : decode cX1_become 16 = .ok (.getfield 15, 3) := by decide +kernel
theorem dX1_become_19 : decode cX1_become 19 = .ok (.iconst 0, 1) := by decide +kernel
theorem dX1_become_20 : decode cX1_become 20 = .ok (.aload_n 0, 1) := by decide +kernel
theorem dX1_become_21 : decode cX1_become 21 = .ok (.getfield 15, 3) := by decide +kernel
theorem dX1_become_24 : decode cX1_become 24 = .ok (.iconst 0, 1) := by decide +kernel
theorem dX1_become_25 : decode cX1_become 25 = .ok (.bipush 11, 2) := by decide +kernel
theorem dX1_become_27 : decode cX1_become 27 = .ok (.invokestatic 46, 3) := by decide +kernel
theorem dX1_become_30 : decode cX1_become 30 = .ok (.aload_n 1, 1) := by decide +kernel
theorem dX1_become_31 : decode cX1_become 31 = .ok (.getfield 18, 3) := by decide +kernel
theorem dX1_become_34 : decode cX1_become 34 = .ok (.iconst 0, 1) := by decide +kernel
theorem dX1_become_35 : decode cX1_become 35 = .ok (.aload_n 0, 1) := by decide +kernel
theorem dX1_become_36 : decode cX1_become 36 = .ok (.getfield 18, 3) := by decide +kernel
theorem dX1_become_39 : decode cX1_become 39 = .ok (.iconst 0, 1) := by decide +kernel
theorem dX1_become_40 : decode cX1_become 40 = .ok (.bipush 11, 2) := by decide +kernel
theorem dX1_become_42 : decode cX1_become 42 = .ok (.invokestatic 46, 3) := by decide +kernel
theorem dX1_become_45 : decode cX1_become 45 = .ok (.aload_n 1, 1) := by decide +kernel
theorem dX1_become_46 : decode cX1_become 46 = .ok (.getfield 21, 3) := by decide +kernel
theorem dX1_become_49 : decode cX1_become 49 = .ok (.iconst 0, 1) := by decide +kernel
theorem dX1_become_50 : decode cX1_become 50 = .ok (.aload_n 0, 1) := by decide +kernel
theorem dX1_become_51 : decode cX1_become 51 = .ok (.getfield 21, 3) := by decide +kernel
theorem dX1_become_54 : decode cX1_become 54 = .ok (.iconst 0, 1) := by decide +kernel
theorem dX1_become_55 : decode cX1_become 55 = .ok (.bipush 11, 2) := by decide +kernel
theorem dX1_become_57 : decode cX1_become 57 = .ok (.invokestatic 46, 3) := by decide +kernel
theorem dX1_become_60 : decode cX1_become 60 = .ok (.aload_n 1, 1) := by decide +kernel
theorem dX1_become_61 : decode cX1_become 61 = .ok (.getfield 24, 3) := by decide +kernel
theorem dX1_become_64 : decode cX1_become 64 = .ok (.iconst 0, 1) := by decide +kernel
theorem dX1_become_65 : decode cX1_become 65 = .ok (.aload_n 0, 1) := by decide +kernel
theorem dX1_become_66 : decode cX1_become 66 = .ok (.getfield 24, 3) := by decide +kernel
theorem dX1_become_69 : decode cX1_become 69 = .ok (.iconst 0, 1) := by decide +kernel
theorem dX1_become_70 : decode cX1_become 70 = .ok (.bipush 11, 2) := by decide +kernel
theorem dX1_become_72 : decode cX1_become 72 = .ok (.invokestatic 46, 3) := by decide +kernel
theorem dX1_become_75 : decode cX1_become 75 = .ok (.aload_n 1, 1) := by decide +kernel
theorem dX1_become_76 : decode cX1_become 76 = .ok (.getfield 27, 3) := by decide +kernel
theorem dX1_become_79 : decode cX1_become 79 = .ok (.iconst 0, 1) := by decide +kernel
theorem dX1_become_80 : decode cX1_become 80 = .ok (.aload_n 0, 1) := by decide +kernel
theorem dX1_become_81 : decode cX1_become 81 = .ok (.getfield 27, 3) := by decide +kernel
theorem dX1_become_84 : decode cX1_become 84 = .ok (.iconst 0, 1) := by decide +kernel
theorem dX1_become_85 : decode cX1_become 85 = .ok (.bipush 11, 2) := by decide +kernel
theorem dX1_become_87 : decode cX1_become 87 = .ok (.invokestatic 46, 3) := by decide +kernel
theorem dX1_become_90 : decode cX1_become 90 = .ok (.aload_n 1, 1) := by decide +kernel
theorem dX1_become_91 : decode cX1_become 91 = .ok (.getfield 30, 3) := by decide +kernel
theorem dX1_become_94 : decode cX1_become 94 = .ok (.iconst 0, 1) := by decide +kernel
theorem dX1_become_95 : decode cX1_become 95 = .ok (.aload_n 0, 1) := by decide +kernel
theorem dX1_become_96 : decode cX1_become 96 = .ok (.getfield 30, 3) := by decide +kernel
theorem dX1_become_99 : decode cX1_become 99 = .ok (.iconst 0, 1) := by decide +kernel
theorem dX1_become_100 : decode cX1_become 100 = .ok (.bipush 10, 2) := by decide +kernel
theorem dX1_become_102 : decode cX1_become 102 = .ok (.invokestatic 46, 3) := by decide +kernel
theorem dX1_become_105 : decode cX1_become 105 = .ok (.aload_n 0, 1) := by decide +kernel
theorem dX1_become_106 : decode cX1_become 106 = .ok (.aload_n 1, 1) := by decide +kernel
theorem dX1_become_107 : decode cX1_become 107 = .ok (.getfield 33, 3) := by decide +kernel
theorem dX1_become_110 : decode cX1_become 110 = .ok (.putfield 33, 3) := by decide +kernel
theorem dX1_become_113 : decode cX1_become 113 = .ok (.aload_n 0, 1) := by decide +kernel
theorem dX1_become_114 : decode cX1_become 114 = .ok (.aload_n 1, 1) := by decide +kernel
theorem dX1_become_115 : decode cX1_become 115 = .ok (.getfield 52, 3) := by decide +kernel
theorem dX1_become_118 : decode cX1_become 118 = .ok (.putfield 52, 3) := by decide +kernel
theorem dX1_become_121 : decode cX1_become 121 = .ok (.aload_n 0, 1) := by decide +kernel
theorem dX1_become_122 : decode cX1_become 122 = .ok (.aload_n 1, 1) := by decide +kernel
theorem dX1_become_123 : decode cX1_become 123 = .ok (.getfield 55, 3) := by decide +kernel
theorem dX1_become_126 : decode cX1_become 126 = .ok (.putfield 55, 3) := by decide +kernel
theorem dX1_become_129 : decode cX1_become 129 = .ok (.aload_n 0, 1) := by decide +kernel
theorem dX1_become_130 : decode cX1_become 130 = .ok (.aload_n 1, 1) := by decide +kernel
theorem dX1_become_131 : decode cX1_become 131 = .ok (.getfield 58, 3) := by decide +kernel
theorem dX1_become_134 : decode cX1_become 134 = .ok (.putfield 58, 3) := by decide +kernel
theorem dX1_become_137 : decode cX1_become 137 = .ok (.aload_n 0, 1) := by decide +kernel
theorem dX1_become_138 : decode cX1_become 138 = .ok (.aload_n 1, 1) := by decide +kernel
theorem dX1_become_139 : decode cX1_become 139 = .ok (.getfield 37, 3) := by decide +kernel
theorem dX1_become_142 : decode cX1_become 142 = .ok (.putfield 37, 3) := by decide +kernel
theorem dX1_become_145 : decode cX1_become 145 = .ok (.return_, 1) := by decide +kernel
theorem dX1_row_0 : decode cX1_row 0 = .ok (.iload_n 1, 1) := by decide +kernel
theorem dX1_row_1 : decode cX1_row 1 = .ok (.tableswitch 60 0 4 #[35, 40, 45, 50, 55], 35) := by decide +kernel
theorem dX1_row_36 : decode cX1_row 36 = .ok (.aload_n 0, 1) := by decide +kernel
theorem dX1_row_37 : decode cX1_row 37 = .ok (.getfield 9, 3) := by decide +kernel
theorem dX1_row_40 : decode cX1_row 40 = .ok (.areturn, 1) := by decide +kernel
theorem dX1_row_41 : decode cX1_row 41 = .ok (.aload_n 0, 1) := by decide +kernel
theorem dX1_row_42 : decode cX1_row 42 = .ok (.getfield 15, 3) := by decide +kernel
theorem dX1_row_45 : decode cX1_row 45 = .ok (.areturn, 1) := by decide +kernel
theorem dX1_row_46 : decode cX1_row 46 = .ok (.aload_n 0, 1) := by decide +kernel
theorem dX1_row_47 : decode cX1_row 47 = .ok (.getfield 18, 3) := by decide +kernel
theorem dX1_row_50 : decode cX1_row 50 = .ok (.areturn, 1) := by decide +kernel
theorem dX1_row_51 : decode cX1_row 51 = .ok (.aload_n 0, 1) := by decide +kernel
theorem dX1_row_52 : decode cX1_row 52 = .ok (.getfield 21, 3) := by decide +kernel
theorem dX1_row_55 : decode cX1_row 55 = .ok (.areturn, 1) := by decide +kernel
theorem dX1_row_56 : decode cX1_row 56 = .ok (.aload_n 0, 1) := by decide +kernel
theorem dX1_row_57 : decode cX1_row 57 = .ok (.getfield 24, 3) := by decide +kernel
theorem dX1_row_60 : decode cX1_row 60 = .ok (.areturn, 1) := by decide +kernel
theorem dX1_row_61 : decode cX1_row 61 = .ok (.aload_n 0, 1) := by decide +kernel
theorem dX1_row_62 : decode cX1_row 62 = .ok (.getfield 27, 3) := by decide +kernel
theorem dX1_row_65 : decode cX1_row 65 = .ok (.areturn, 1) := by decide +kernel
set_option maxRecDepth 20000 in
theorem ggX1_usesOf_X0_using : GoodIn wsX1_usesOf wsX0_using := goodIn_r _ [7, 8, 9, 10, 11] (by decide +kernel) (by decide +kernel)
set_option maxRecDepth 20000 in
theorem gX1_usesOf_X0_using : GoodIn wsX1_usesOf (va_wsS RX1 61 yX0_using wsX0_using) := goodIn_app (goodIn_of _ (by decide +kernel)) ggX1_usesOf_X0_using
theorem dX1_usesOf_0 : decode cX1_usesOf 0 = .ok (.aload_n 0, 1) := by decide +kernel
theorem dX1_usesOf_1 : decode cX1_usesOf 1 = .ok (.getfield 9, 3) := by decide +kernel
theorem dX1_usesOf_4 : decode cX1_usesOf 4 = .ok (.iload_n 1, 1) := by decide +kernel
theorem dX1_usesOf_5 : decode cX1_usesOf 5 = .ok (.iaload, 1) := by decide +kernel
theorem dX1_usesOf_6 : decode cX1_usesOf 6 = .ok (.aload_n 0, 1) := by decide +kernel
theorem dX1_usesOf_7 : decode cX1_usesOf 7 = .ok (.getfield 18, 3) := by decide +kernel
theorem dX1_usesOf_10 : decode cX1_usesOf 10 = .ok (.iload_n 1, 1) := by decide +kernel
theorem dX1_usesOf_11 : decode cX1_usesOf 11 = .ok (.iaload, 1) := by decide +kernel
theorem dX1_usesOf_12 : decode cX1_usesOf 12 = .ok (.aload_n 0, 1) := by decide +kernel
theorem dX1_usesOf_13 : decode cX1_usesOf 13 = .ok (.getfield 58, 3) := by decide +kernel
theorem dX1_usesOf_16 : decode cX1_usesOf 16 = .ok (.invokestatic 61, 3) := by decide +kernel
theorem dX1_usesOf_19 : decode cX1_usesOf 19 = .ok (.ireturn, 1) := by decide +kernel
set_option maxRecDepth 20000 in
theorem ggX1_keepsOf_X0_keeping : GoodIn wsX1_keepsOf wsX0_keeping := goodIn_r _ [7] (by decide +kernel) (by decide +kernel)
set_option maxRecDepth 20000 in
theorem gX1_keepsOf_X0_keeping : GoodIn wsX1_keepsOf (va_wsS RX1 67 yX0_keeping wsX0_keeping) := goodIn_app (goodIn_of _ (by decide +kernel)) ggX1_keepsOf_X0_keeping
theorem dX1_keepsOf_0 : decode cX1_keepsOf 0 = .ok (.aload_n 0, 1) := by decide +kernel
theorem dX1_keepsOf_1 : decode cX1_keepsOf 1 = .ok (.getfield 9, 3) := by decide +kernel
theorem dX1_keepsOf_4 : decode cX1_keepsOf 4 = .ok (.iload_n 1, 1) := by decide +kernel
theorem dX1_keepsOf_5 : decode cX1_keepsOf 5 = .ok (.iaload, 1) := by decide +kernel
theorem dX1_keepsOf_6 : decode cX1_keepsOf 6 = .ok (.aload_n 0, 1) := by decide +kernel
theorem dX1_keepsOf_7 : decode cX1_keepsOf 7 = .ok (.getfield 21, 3) := by decide +kernel
theorem dX1_keepsOf_10 : decode cX1_keepsOf 10 = .ok (.iload_n 1, 1) := by decide +kernel
theorem dX1_keepsOf_11 : decode cX1_keepsOf 11 = .ok (.iaload, 1) := by decide +kernel
theorem dX1_keepsOf_12 : decode cX1_keepsOf 12 = .ok (.aload_n 0, 1) := by decide +kernel
theorem dX1_keepsOf_13 : decode cX1_keepsOf 13 = .ok (.getfield 18, 3) := by decide +kernel
theorem dX1_keepsOf_16 : decode cX1_keepsOf 16 = .ok (.iload_n 1, 1) := by decide +kernel
theorem dX1_keepsOf_17 : decode cX1_keepsOf 17 = .ok (.iaload, 1) := by decide +kernel
theorem dX1_keepsOf_18 : decode cX1_keepsOf 18 = .ok (.invokestatic 67, 3) := by decide +kernel
theorem dX1_keepsOf_21 : decode cX1_keepsOf 21 = .ok (.ireturn, 1) := by decide +kernel
theorem dX1_leadsTo_0 : decode cX1_leadsTo 0 = .ok (.iload_n 1, 1) := by decide +kernel
theorem dX1_leadsTo_1 : decode cX1_leadsTo 1 = .ok (.iconst 1, 1) := by decide +kernel
theorem dX1_leadsTo_2 : decode cX1_leadsTo 2 = .ok (.iadd, 1) := by decide +kernel
theorem dX1_leadsTo_3 : decode cX1_leadsTo 3 = .ok (.aload_n 0, 1) := by decide +kernel
theorem dX1_leadsTo_4 : decode cX1_leadsTo 4 = .ok (.getfield 24, 3) := by decide +kernel
theorem dX1_leadsTo_7 : decode cX1_leadsTo 7 = .ok (.iload_n 1, 1) := by decide +kernel
theorem dX1_leadsTo_8 : decode cX1_leadsTo 8 = .ok (.iaload, 1) := by decide +kernel
theorem dX1_leadsTo_9 : decode cX1_leadsTo 9 = .ok (.iadd, 1) := by decide +kernel
theorem dX1_leadsTo_10 : decode cX1_leadsTo 10 = .ok (.istore_n 2, 1) := by decide +kernel
theorem dX1_leadsTo_11 : decode cX1_leadsTo 11 = .ok (.iload_n 2, 1) := by decide +kernel
theorem dX1_leadsTo_12 : decode cX1_leadsTo 12 = .ok (.bipush 10, 2) := by decide +kernel
theorem dX1_leadsTo_14 : decode cX1_leadsTo 14 = .ok (.if_icmp .gt 7, 3) := by decide +kernel
theorem dX1_leadsTo_17 : decode cX1_leadsTo 17 = .ok (.iload_n 2, 1) := by decide +kernel
theorem dX1_leadsTo_18 : decode cX1_leadsTo 18 = .ok (.goto 4, 3) := by decide +kernel
theorem dX1_leadsTo_21 : decode cX1_leadsTo 21 = .ok (.iconst (-1), 1) := by decide +kernel
theorem dX1_leadsTo_22 : decode cX1_leadsTo 22 = .ok (.ireturn, 1) := by decide +kernel
theorem dX1_draw_0 : decode cX1_draw 0 = .ok (.aload_n 0, 1) := by decide +kernel
theorem dX1_draw_1 : decode cX1_draw 1 = .ok (.aload_n 0, 1) := by decide +kernel
theorem dX1_draw_2 : decode cX1_draw 2 = .ok (.getfield 37, 3) := by decide +kernel
theorem dX1_draw_5 : decode cX1_draw 5 = .ok (.ldc 70, 2) := by decide +kernel
theorem dX1_draw_7 : decode cX1_draw 7 = .ok (.imul, 1) := by decide +kernel
theorem dX1_draw_8 : decode cX1_draw 8 = .ok (.sipush 12345, 3) := by decide +kernel
theorem dX1_draw_11 : decode cX1_draw 11 = .ok (.iadd, 1) := by decide +kernel
theorem dX1_draw_12 : decode cX1_draw 12 = .ok (.putfield 37, 3) := by decide +kernel
theorem dX1_draw_15 : decode cX1_draw 15 = .ok (.aload_n 0, 1) := by decide +kernel
theorem dX1_draw_16 : decode cX1_draw 16 = .ok (.getfield 37, 3) := by decide +kernel
theorem dX1_draw_19 : decode cX1_draw 19 = .ok (.bipush 8, 2) := by decide +kernel
theorem dX1_draw_21 : decode cX1_draw 21 = .ok (.iushr, 1) := by decide +kernel
theorem dX1_draw_22 : decode cX1_draw 22 = .ok (.ireturn, 1) := by decide +kernel
set_option maxRecDepth 20000 in
theorem ggX1_bring_X1_lose : GoodIn wsX1_bring wsX1_lose := goodIn_r _ [12, 1, 13, 3, 4, 5, 6, 14, 15, 16, 17, 18, 19, 20, 21, 22, 23, 24, 25] (by decide +kernel) (by decide +kernel)
set_option maxRecDepth 20000 in
theorem gX1_bring_X1_lose : GoodIn wsX1_bring (wsV RX1 78 RX1 yX1_lose wsX1_lose) := goodIn_app (goodIn_of _ (by decide +kernel)) ggX1_bring_X1_lose
theorem dX1_bring_0 : decode cX1_bring 0 = .ok (.iload_n 1, 1) := by decide +kernel
theorem dX1_bring_1 : decode cX1_bring 1 = .ok (.iconst (-1), 1) := by decide +kernel
theorem dX1_bring_2 : decode cX1_bring 2 = .ok (.if_icmp .ne 19, 3) := by decide +kernel
theorem dX1_bring_5 : decode cX1_bring 5 = .ok (.aload_n 0, 1) := by decide +kernel
theorem dX1_bring_6 : decode cX1_bring 6 = .ok (.ldc 71, 2) := by decide +kernel
theorem dX1_bring_8 : decode cX1_bring 8 = .ok (.aload_n 0, 1) := by decide +kernel
theorem dX1_bring_9 : decode cX1_bring 9 = .ok (.getfield 52, 3) := by decide +kernel
theorem dX1_bring_12 : decode cX1_bring 12 = .ok (.iload_n 2, 1) := by decide +kernel
theorem dX1_bring_13 : decode cX1_bring 13 = .ok (.iadd, 1) := by decide +kernel
theorem dX1_bring_14 : decode cX1_bring 14 = .ok (.invokestatic 72, 3) := by decide +kernel
theorem dX1_bring_17 : decode cX1_bring 17 = .ok (.putfield 52, 3) := by decide +kernel
theorem dX1_bring_20 : decode cX1_bring 20 = .ok (.return_, 1) := by decide +kernel
theorem dX1_bring_21 : decode cX1_bring 21 = .ok (.aload_n 0, 1) := by decide +kernel
theorem dX1_bring_22 : decode cX1_bring 22 = .ok (.getfield 15, 3) := by decide +kernel
theorem dX1_bring_25 : decode cX1_bring 25 = .ok (.iload_n 1, 1) := by decide +kernel
theorem dX1_bring_26 : decode cX1_bring 26 = .ok (.iaload, 1) := by decide +kernel
theorem dX1_bring_27 : decode cX1_bring 27 = .ok (.iload_n 2, 1) := by decide +kernel
theorem dX1_bring_28 : decode cX1_bring 28 = .ok (.iadd, 1) := by decide +kernel
theorem dX1_bring_29 : decode cX1_bring 29 = .ok (.istore_n 3, 1) := by decide +kernel
theorem dX1_bring_30 : decode cX1_bring 30 = .ok (.aload_n 0, 1) := by decide +kernel
theorem dX1_bring_31 : decode cX1_bring 31 = .ok (.getfield 15, 3) := by decide +kernel
theorem dX1_bring_34 : decode cX1_bring 34 = .ok (.iload_n 1, 1) := by decide +kernel
theorem dX1_bring_35 : decode cX1_bring 35 = .ok (.sipush 9999, 3) := by decide +kernel
theorem dX1_bring_38 : decode cX1_bring 38 = .ok (.iload_n 3, 1) := by decide +kernel
theorem dX1_bring_39 : decode cX1_bring 39 = .ok (.invokestatic 72, 3) := by decide +kernel
theorem dX1_bring_42 : decode cX1_bring 42 = .ok (.iastore, 1) := by decide +kernel
theorem dX1_bring_43 : decode cX1_bring 43 = .ok (.aload_n 0, 1) := by decide +kernel
theorem dX1_bring_44 : decode cX1_bring 44 = .ok (.iload_n 3, 1) := by decide +kernel
theorem dX1_bring_45 : decode cX1_bring 45 = .ok (.aload_n 0, 1) := by decide +kernel
theorem dX1_bring_46 : decode cX1_bring 46 = .ok (.getfield 15, 3) := by decide +kernel
theorem dX1_bring_49 : decode cX1_bring 49 = .ok (.iload_n 1, 1) := by decide +kernel
theorem dX1_bring_50 : decode cX1_bring 50 = .ok (.iaload, 1) := by decide +kernel
theorem dX1_bring_51 : decode cX1_bring 51 = .ok (.isub, 1) := by decide +kernel
theorem dX1_bring_52 : decode cX1_bring 52 = .ok (.invokevirtual 78, 3) := by decide +kernel
theorem dX1_bring_55 : decode cX1_bring 55 = .ok (.return_, 1) := by decide +kernel
theorem dX1_lose_0 : decode cX1_lose 0 = .ok (.aload_n 0, 1) := by decide +kernel
theorem dX1_lose_1 : decode cX1_lose 1 = .ok (.ldc 71, 2) := by decide +kernel
theorem dX1_lose_3 : decode cX1_lose 3 = .ok (.aload_n 0, 1) := by decide +kernel
theorem dX1_lose_4 : decode cX1_lose 4 = .ok (.getfield 55, 3) := by decide +kernel
theorem dX1_lose_7 : decode cX1_lose 7 = .ok (.iload_n 1, 1) := by decide +kernel
theorem dX1_lose_8 : decode cX1_lose 8 = .ok (.iadd, 1) := by decide +kernel
theorem dX1_lose_9 : decode cX1_lose 9 = .ok (.invokestatic 72, 3) := by decide +kernel
theorem dX1_lose_12 : decode cX1_lose 12 = .ok (.putfield 55, 3) := by decide +kernel
theorem dX1_lose_15 : decode cX1_lose 15 = .ok (.return_, 1) := by decide +kernel
set_option maxRecDepth 20000 in
theorem ggX1_passHour_X1_bring : GoodIn wsX1_passHour wsX1_bring := goodIn_r _ [15, 16, 17, 4, 5, 6, 7, 2, 18, 19, 20, 14, 21, 22, 51, 52, 53, 54, 55, 56, 57, 58, 59, 60, 61, 62] (by decide +kernel) (by decide +kernel)
set_option maxRecDepth 20000 in
theorem gX1_passHour_X1_bring : GoodIn wsX1_passHour (wsV RX1 82 RX1 yX1_bring wsX1_bring) := goodIn_app (goodIn_of _ (by decide +kernel)) ggX1_passHour_X1_bring
set_option maxRecDepth 20000 in
theorem ggX1_passHour_X1_usesOf : GoodIn wsX1_passHour wsX1_usesOf := goodIn_r _ [26, 8, 27, 10, 28, 29, 30, 31, 32, 33, 6, 34, 51, 52, 53, 54, 55, 56, 57, 58, 59, 60, 61, 62] (by decide +kernel) (by decide +kernel)
set_option maxRecDepth 20000 in
theorem gX1_passHour_X1_usesOf : GoodIn wsX1_passHour (wsV RX1 86 RX1 yX1_usesOf wsX1_usesOf) := goodIn_app (goodIn_of _ (by decide +kernel)) ggX1_passHour_X1_usesOf
set_option maxRecDepth 20000 in
theorem ggX1_passHour_X1_keepsOf : GoodIn wsX1_passHour wsX1_keepsOf := goodIn_r _ [38, 8, 39, 27, 40, 41, 30, 42, 51, 52, 53, 54, 55, 56, 57, 58, 59, 60, 61, 62] (by decide +kernel) (by decide +kernel)
set_option maxRecDepth 20000 in
theorem gX1_passHour_X1_keepsOf : GoodIn wsX1_passHour (wsV RX1 90 RX1 yX1_keepsOf wsX1_keepsOf) := goodIn_app (goodIn_of _ (by decide +kernel)) ggX1_passHour_X1_keepsOf
set_option maxRecDepth 20000 in
theorem ggX1_passHour_X0_losing : GoodIn wsX1_passHour wsX0_losing := goodIn_r _ [45] (by decide +kernel) (by decide +kernel)
set_option maxRecDepth 20000 in
theorem gX1_passHour_X0_losing : GoodIn wsX1_passHour (va_wsS RX1 93 yX0_losing wsX0_losing) := goodIn_app (goodIn_of _ (by decide +kernel)) ggX1_passHour_X0_losing
set_option maxRecDepth 20000 in
theorem ggX1_passHour_X1_lose : GoodIn wsX1_passHour wsX1_lose := goodIn_r _ [21, 16, 22, 4, 5, 6, 7, 51, 52, 53, 54, 55, 56, 57, 58, 59, 60, 61, 62] (by decide +kernel) (by decide +kernel)
set_option maxRecDepth 20000 in
theorem gX1_passHour_X1_lose : GoodIn wsX1_passHour (wsV RX1 78 RX1 yX1_lose wsX1_lose) := goodIn_app (goodIn_of _ (by decide +kernel)) ggX1_passHour_X1_lose
set_option maxRecDepth 20000 in
theorem ggX1_passHour_X1_leadsTo : GoodIn wsX1_passHour wsX1_leadsTo := goodIn_r _ [49, 50, 51, 52, 53, 54, 55, 56, 57, 58, 59, 60, 61, 62] (by decide +kernel) (by decide +kernel)
set_option maxRecDepth 20000 in
theorem gX1_passHour_X1_leadsTo : GoodIn wsX1_passHour (wsV RX1 96 RX1 yX1_leadsTo wsX1_leadsTo) := goodIn_app (goodIn_of _ (by decide +kernel)) ggX1_passHour_X1_leadsTo
theorem dX1_passHour_0 : decode cX1_passHour 0 = .ok (.iconst 0, 1) := by decide +kernel
theorem dX1_passHour_1 : decode cX1_passHour 1 = .ok (.istore_n 2, 1) := by decide +kernel
theorem dX1_passHour_2 : decode cX1_passHour 2 = .ok (.aload_n 0, 1) := by decide +kernel
theorem dX1_passHour_3 : decode cX1_passHour 3 = .ok (.iconst 0, 1) := by decide +kernel
theorem dX1_passHour_4 : decode cX1_passHour 4 = .ok (.aload_n 0, 1) := by decide +kernel
theorem dX1_passHour_5 : decode cX1_passHour 5 = .ok (.getfield 33, 3) := by decide +kernel
theorem dX1_passHour_8 : decode cX1_passHour 8 = .ok (.invokevirtual 82, 3) := by decide +kernel
theorem dX1_passHour_11 : decode cX1_passHour 11 = .ok (.iload_n 1, 1) := by decide +kernel
theorem dX1_passHour_12 : decode cX1_passHour 12 = .ok (.istore_n 3, 1) := by decide +kernel
theorem dX1_passHour_13 : decode cX1_passHour 13 = .ok (.iload_n 3, 1) := by decide +kernel
theorem dX1_passHour_14 : decode cX1_passHour 14 = .ok (.ifCond .lt 120, 3) := by decide +kernel
theorem dX1_passHour_17 : decode cX1_passHour 17 = .ok (.aload_n 0, 1) := by decide +kernel
theorem dX1_passHour_18 : decode cX1_passHour 18 = .ok (.getfield 15, 3) := by decide +kernel
theorem dX1_passHour_21 : decode cX1_passHour 21 = .ok (.iload_n 3, 1) := by decide +kernel
theorem dX1_passHour_22 : decode cX1_passHour 22 = .ok (.iaload, 1) := by decide +kernel
theorem dX1_passHour_23 : decode cX1_passHour 23 = .ok (.aload_n 0, 1) := by decide +kernel
theorem dX1_passHour_24 : decode cX1_passHour 24 = .ok (.iload_n 3, 1) := by decide +kernel
theorem dX1_passHour_25 : decode cX1_passHour 25 = .ok (.invokevirtual 86, 3) := by decide +kernel
theorem dX1_passHour_28 : decode cX1_passHour 28 = .ok (.isub, 1) := by decide +kernel
theorem dX1_passHour_29 : decode cX1_passHour 29 = .ok (.istore 4, 2) := by decide +kernel
theorem dX1_passHour_31 : decode cX1_passHour 31 = .ok (.iload 4, 2) := by decide +kernel
theorem dX1_passHour_33 : decode cX1_passHour 33 = .ok (.ifCond .ge 32, 3) := by decide +kernel
theorem dX1_passHour_36 : decode cX1_passHour 36 = .ok (.iconst 0, 1) := by decide +kernel
theorem dX1_passHour_37 : decode cX1_passHour 37 = .ok (.istore 4, 2) := by decide +kernel
theorem dX1_passHour_39 : decode cX1_passHour 39 = .ok (.iload_n 2, 1) := by decide +kernel
theorem dX1_passHour_40 : decode cX1_passHour 40 = .ok (.iconst 1, 1) := by decide +kernel
theorem dX1_passHour_41 : decode cX1_passHour 41 = .ok (.iload_n 3, 1) := by decide +kernel
theorem dX1_passHour_42 : decode cX1_passHour 42 = .ok (.ishl, 1) := by decide +kernel
theorem dX1_passHour_43 : decode cX1_passHour 43 = .ok (.ior, 1) := by decide +kernel
theorem dX1_passHour_44 : decode cX1_passHour 44 = .ok (.istore_n 2, 1) := by decide +kernel
theorem dX1_passHour_45 : decode cX1_passHour 45 = .ok (.aload_n 0, 1) := by decide +kernel
theorem dX1_passHour_46 : decode cX1_passHour 46 = .ok (.getfield 27, 3) := by decide +kernel
theorem dX1_passHour_49 : decode cX1_passHour 49 = .ok (.iload_n 3, 1) := by decide +kernel
theorem dX1_passHour_50 : decode cX1_passHour 50 = .ok (.sipush 9999, 3) := by decide +kernel
theorem dX1_passHour_53 : decode cX1_passHour 53 = .ok (.aload_n 0, 1) := by decide +kernel
theorem dX1_passHour_54 : decode cX1_passHour 54 = .ok (.getfield 27, 3) := by decide +kernel
theorem dX1_passHour_57 : decode cX1_passHour 57 = .ok (.iload_n 3, 1) := by decide +kernel
theorem dX1_passHour_58 : decode cX1_passHour 58 = .ok (.iaload, 1) := by decide +kernel
theorem dX1_passHour_59 : decode cX1_passHour 59 = .ok (.iconst 1, 1) := by decide +kernel
theorem dX1_passHour_60 : decode cX1_passHour 60 = .ok (.iadd, 1) := by decide +kernel
theorem dX1_passHour_61 : decode cX1_passHour 61 = .ok (.invokestatic 72, 3) := by decide +kernel
theorem dX1_passHour_64 : decode cX1_passHour 64 = .ok (.iastore, 1) := by decide +kernel
theorem dX1_passHour_65 : decode cX1_passHour 65 = .ok (.aload_n 0, 1) := by decide +kernel
theorem dX1_passHour_66 : decode cX1_passHour 66 = .ok (.getfield 15, 3) := by decide +kernel
theorem dX1_passHour_69 : decode cX1_passHour 69 = .ok (.iload_n 3, 1) := by decide +kernel
theorem dX1_passHour_70 : decode cX1_passHour 70 = .ok (.iload 4, 2) := by decide +kernel
theorem dX1_passHour_72 : decode cX1_passHour 72 = .ok (.aload_n 0, 1) := by decide +kernel
theorem dX1_passHour_73 : decode cX1_passHour 73 = .ok (.iload_n 3, 1) := by decide +kernel
theorem dX1_passHour_74 : decode cX1_passHour 74 = .ok (.invokevirtual 90, 3) := by decide +kernel
theorem dX1_passHour_77 : decode cX1_passHour 77 = .ok (.invokestatic 72, 3) := by decide +kernel
theorem dX1_passHour_80 : decode cX1_passHour 80 = .ok (.iastore, 1) := by decide +kernel
theorem dX1_passHour_81 : decode cX1_passHour 81 = .ok (.iload 4, 2) := by decide +kernel
theorem dX1_passHour_83 : decode cX1_passHour 83 = .ok (.aload_n 0, 1) := by decide +kernel
theorem dX1_passHour_84 : decode cX1_passHour 84 = .ok (.getfield 15, 3) := by decide +kernel
theorem dX1_passHour_87 : decode cX1_passHour 87 = .ok (.iload_n 3, 1) := by decide +kernel
theorem dX1_passHour_88 : decode cX1_passHour 88 = .ok (.iaload, 1) := by decide +kernel
theorem dX1_passHour_89 : decode cX1_passHour 89 = .ok (.isub, 1) := by decide +kernel
theorem dX1_passHour_90 : decode cX1_passHour 90 = .ok (.istore 5, 2) := by decide +kernel
theorem dX1_passHour_92 : decode cX1_passHour 92 = .ok (.iload 5, 2) := by decide +kernel
theorem dX1_passHour_94 : decode cX1_passHour 94 = .ok (.aload_n 0, 1) := by decide +kernel
theorem dX1_passHour_95 : decode cX1_passHour 95 = .ok (.getfield 9, 3) := by decide +kernel
theorem dX1_passHour_98 : decode cX1_passHour 98 = .ok (.iload_n 3, 1) := by decide +kernel
theorem dX1_passHour_99 : decode cX1_passHour 99 = .ok (.iaload, 1) := by decide +kernel
theorem dX1_passHour_100 : decode cX1_passHour 100 = .ok (.invokestatic 93, 3) := by decide +kernel
theorem dX1_passHour_103 : decode cX1_passHour 103 = .ok (.invokestatic 72, 3) := by decide +kernel
theorem dX1_passHour_106 : decode cX1_passHour 106 = .ok (.istore 6, 2) := by decide +kernel
theorem dX1_passHour_108 : decode cX1_passHour 108 = .ok (.aload_n 0, 1) := by decide +kernel
theorem dX1_passHour_109 : decode cX1_passHour 109 = .ok (.iload 6, 2) := by decide +kernel
theorem dX1_passHour_111 : decode cX1_passHour 111 = .ok (.invokevirtual 78, 3) := by decide +kernel
theorem dX1_passHour_114 : decode cX1_passHour 114 = .ok (.aload_n 0, 1) := by decide +kernel
theorem dX1_passHour_115 : decode cX1_passHour 115 = .ok (.aload_n 0, 1) := by decide +kernel
theorem dX1_passHour_116 : decode cX1_passHour 116 = .ok (.iload_n 3, 1) := by decide +kernel
theorem dX1_passHour_117 : decode cX1_passHour 117 = .ok (.invokevirtual 96, 3) := by decide +kernel
theorem dX1_passHour_120 : decode cX1_passHour 120 = .ok (.iload 5, 2) := by decide +kernel
theorem dX1_passHour_122 : decode cX1_passHour 122 = .ok (.iload 6, 2) := by decide +kernel
theorem dX1_passHour_124 : decode cX1_passHour 124 = .ok (.isub, 1) := by decide +kernel
theorem dX1_passHour_125 : decode cX1_passHour 125 = .ok (.invokevirtual 82, 3) := by decide +kernel
theorem dX1_passHour_128 : decode cX1_passHour 128 = .ok (.iinc 3 (-1), 3) := by decide +kernel
theorem dX1_passHour_131 : decode cX1_passHour 131 = .ok (.goto (-118), 3) := by decide +kernel
theorem dX1_passHour_134 : decode cX1_passHour 134 = .ok (.aload_n 0, 1) := by decide +kernel
theorem dX1_passHour_135 : decode cX1_passHour 135 = .ok (.ldc 99, 2) := by decide +kernel
theorem dX1_passHour_137 : decode cX1_passHour 137 = .ok (.aload_n 0, 1) := by decide +kernel
theorem dX1_passHour_138 : decode cX1_passHour 138 = .ok (.getfield 58, 3) := by decide +kernel
theorem dX1_passHour_141 : decode cX1_passHour 141 = .ok (.iconst 1, 1) := by decide +kernel
theorem dX1_passHour_142 : decode cX1_passHour 142 = .ok (.iadd, 1) := by decide +kernel
theorem dX1_passHour_143 : decode cX1_passHour 143 = .ok (.invokestatic 72, 3) := by decide +kernel
theorem dX1_passHour_146 : decode cX1_passHour 146 = .ok (.putfield 58, 3) := by decide +kernel
theorem dX1_passHour_149 : decode cX1_passHour 149 = .ok (.iload_n 2, 1) := by decide +kernel
theorem dX1_passHour_150 : decode cX1_passHour 150 = .ok (.ireturn, 1) := by decide +kernel
set_option maxRecDepth 20000 in
theorem ggX1_passHours_X1_passHour : GoodIn wsX1_passHours wsX1_passHour := goodIn_r _ [5, 6, 7, 8, 9, 10, 11, 12, 13, 14, 15, 16, 17, 18, 4, 19, 20, 21, 22, 23, 24, 25, 26, 27, 28, 29, 30, 31, 32, 33, 34, 35, 36, 37, 38, 39, 40, 41, 42, 43, 44, 45, 46, 47, 48, 49, 50, 51, 52, 53, 54, 55, 56, 57, 58, 59, 60, 61, 62, 63, 64, 65, 66] (by decide +kernel) (by decide +kernel)
set_option maxRecDepth 20000 in
theorem gX1_passHours_X1_passHour : GoodIn wsX1_passHours (wsV RX1 100 RX1 yX1_passHour wsX1_passHour) := goodIn_app (goodIn_of _ (by decide +kernel)) ggX1_passHours_X1_passHour
theorem dX1_passHours_0 : decode cX1_passHours 0 = .ok (.iconst 0, 1) := by decide +kernel
theorem dX1_passHours_1 : decode cX1_passHours 1 = .ok (.istore_n 3, 1) := by decide +kernel
theorem dX1_passHours_2 : decode cX1_passHours 2 = .ok (.iconst 0, 1) := by decide +kernel
theorem dX1_passHours_3 : decode cX1_passHours 3 = .ok (.istore 4, 2) := by decide +kernel
theorem dX1_passHours_5 : decode cX1_passHours 5 = .ok (.iload 4, 2) := by decide +kernel
theorem dX1_passHours_7 : decode cX1_passHours 7 = .ok (.iload_n 1, 1) := by decide +kernel
theorem dX1_passHours_8 : decode cX1_passHours 8 = .ok (.if_icmp .ge 17, 3) := by decide +kernel
theorem dX1_passHours_11 : decode cX1_passHours 11 = .ok (.iload_n 3, 1) := by decide +kernel
theorem dX1_passHours_12 : decode cX1_passHours 12 = .ok (.aload_n 0, 1) := by decide +kernel
theorem dX1_passHours_13 : decode cX1_passHours 13 = .ok (.iload_n 2, 1) := by decide +kernel
theorem dX1_passHours_14 : decode cX1_passHours 14 = .ok (.invokevirtual 100, 3) := by decide +kernel
theorem dX1_passHours_17 : decode cX1_passHours 17 = .ok (.ior, 1) := by decide +kernel
theorem dX1_passHours_18 : decode cX1_passHours 18 = .ok (.istore_n 3, 1) := by decide +kernel
theorem dX1_passHours_19 : decode cX1_passHours 19 = .ok (.iinc 4 1, 3) := by decide +kernel
theorem dX1_passHours_22 : decode cX1_passHours 22 = .ok (.goto (-17), 3) := by decide +kernel
theorem dX1_passHours_25 : decode cX1_passHours 25 = .ok (.iload_n 3, 1) := by decide +kernel
theorem dX1_passHours_26 : decode cX1_passHours 26 = .ok (.ireturn, 1) := by decide +kernel
set_option maxRecDepth 20000 in
theorem ggX1_staysWet_X1_passHour : GoodIn wsX1_staysWet wsX1_passHour := goodIn_r _ [5, 6, 7, 8, 9, 10, 11, 12, 13, 14, 15, 16, 17, 18, 4, 19, 20, 21, 22, 23, 24, 25, 26, 27, 28, 29, 30, 31, 32, 33, 34, 35, 36, 37, 38, 39, 40, 41, 42, 43, 44, 45, 46, 47, 48, 49, 50, 51, 52, 53, 54, 55, 56, 57, 58, 59, 60, 61, 62, 63, 64, 65, 66] (by decide +kernel) (by decide +kernel)
set_option maxRecDepth 20000 in
theorem gX1_staysWet_X1_passHour : GoodIn wsX1_staysWet (wsV RX1 100 RX1 yX1_passHour wsX1_passHour) := goodIn_app (goodIn_of _ (by decide +kernel)) ggX1_staysWet_X1_passHour
theorem dX1_staysWet_0 : decode cX1_staysWet 0 = .ok (.iconst 0, 1) := by decide +kernel
theorem dX1_staysWet_1 : decode cX1_staysWet 1 = .ok (.istore 4, 2) := by decide +kernel
theorem dX1_staysWet_3 : decode cX1_staysWet 3 = .ok (.iload 4, 2) := by decide +kernel
theorem dX1_staysWet_5 : decode cX1_staysWet 5 = .ok (.iload_n 3, 1) := by decide +kernel
theorem dX1_staysWet_6 : decode cX1_staysWet 6 = .ok (.if_icmp .ge 21, 3) := by decide +kernel
theorem dX1_staysWet_9 : decode cX1_staysWet 9 = .ok (.aload_n 0, 1) := by decide +kernel
theorem dX1_staysWet_10 : decode cX1_staysWet 10 = .ok (.iload_n 2, 1) := by decide +kernel
theorem dX1_staysWet_11 : decode cX1_staysWet 11 = .ok (.invokevirtual 100, 3) := by decide +kernel
theorem dX1_staysWet_14 : decode cX1_staysWet 14 = .ok (.iload_n 1, 1) := by decide +kernel
theorem dX1_staysWet_15 : decode cX1_staysWet 15 = .ok (.iand, 1) := by decide +kernel
theorem dX1_staysWet_16 : decode cX1_staysWet 16 = .ok (.ifCond .eq 5, 3) := by decide +kernel
theorem dX1_staysWet_19 : decode cX1_staysWet 19 = .ok (.iconst 0, 1) := by decide +kernel
theorem dX1_staysWet_20 : decode cX1_staysWet 20 = .ok (.ireturn, 1) := by decide +kernel
theorem dX1_staysWet_21 : decode cX1_staysWet 21 = .ok (.iinc 4 1, 3) := by decide +kernel
theorem dX1_staysWet_24 : decode cX1_staysWet 24 = .ok (.goto (-21), 3) := by decide +kernel
theorem dX1_staysWet_27 : decode cX1_staysWet 27 = .ok (.iconst 1, 1) := by decide +kernel
theorem dX1_staysWet_28 : decode cX1_staysWet 28 = .ok (.ireturn, 1) := by decide +kernel
theorem dX1_waterOfAll_0 : decode cX1_waterOfAll 0 = .ok (.iconst 0, 1) := by decide +kernel
theorem dX1_waterOfAll_1 : decode cX1_waterOfAll 1 = .ok (.istore_n 1, 1) := by decide +kernel
theorem dX1_waterOfAll_2 : decode cX1_waterOfAll 2 = .ok (.iconst 0, 1) := by decide +kernel
theorem dX1_waterOfAll_3 : decode cX1_waterOfAll 3 = .ok (.istore_n 2, 1) := by decide +kernel
theorem dX1_waterOfAll_4 : decode cX1_waterOfAll 4 = .ok (.iload_n 2, 1) := by decide +kernel
theorem dX1_waterOfAll_5 : decode cX1_waterOfAll 5 = .ok (.bipush 11, 2) := by decide +kernel
theorem dX1_waterOfAll_7 : decode cX1_waterOfAll 7 = .ok (.if_icmp .ge 18, 3) := by decide +kernel
theorem dX1_waterOfAll_10 : decode cX1_waterOfAll 10 = .ok (.iload_n 1, 1) := by decide +kernel
theorem dX1_waterOfAll_11 : decode cX1_waterOfAll 11 = .ok (.aload_n 0, 1) := by decide +kernel
theorem dX1_waterOfAll_12 : decode cX1_waterOfAll 12 = .ok (.getfield 15, 3) := by decide +kernel
theorem dX1_waterOfAll_15 : decode cX1_waterOfAll 15 = .ok (.iload_n 2, 1) := by decide +kernel
theorem dX1_waterOfAll_16 : decode cX1_waterOfAll 16 = .ok (.iaload, 1) := by decide +kernel
theorem dX1_waterOfAll_17 : decode cX1_waterOfAll 17 = .ok (.iadd, 1) := by decide +kernel
theorem dX1_waterOfAll_18 : decode cX1_waterOfAll 18 = .ok (.istore_n 1, 1) := by decide +kernel
theorem dX1_waterOfAll_19 : decode cX1_waterOfAll 19 = .ok (.iinc 2 1, 3) := by decide +kernel
theorem dX1_waterOfAll_22 : decode cX1_waterOfAll 22 = .ok (.goto (-18), 3) := by decide +kernel
theorem dX1_waterOfAll_25 : decode cX1_waterOfAll 25 = .ok (.iload_n 1, 1) := by decide +kernel
theorem dX1_waterOfAll_26 : decode cX1_waterOfAll 26 = .ok (.ireturn, 1) := by decide +kernel
theorem dX1_everDry_0 : decode cX1_everDry 0 = .ok (.iconst 0, 1) := by decide +kernel
theorem dX1_everDry_1 : decode cX1_everDry 1 = .ok (.istore_n 1, 1) := by decide +kernel
theorem dX1_everDry_2 : decode cX1_everDry 2 = .ok (.iconst 0, 1) := by decide +kernel
theorem dX1_everDry_3 : decode cX1_everDry 3 = .ok (.istore_n 2, 1) := by decide +kernel
theorem dX1_everDry_4 : decode cX1_everDry 4 = .ok (.iload_n 2, 1) := by decide +kernel
theorem dX1_everDry_5 : decode cX1_everDry 5 = .ok (.bipush 11, 2) := by decide +kernel
theorem dX1_everDry_7 : decode cX1_everDry 7 = .ok (.if_icmp .ge 24, 3) := by decide +kernel
theorem dX1_everDry_10 : decode cX1_everDry 10 = .ok (.aload_n 0, 1) := by decide +kernel
theorem dX1_everDry_11 : decode cX1_everDry 11 = .ok (.getfield 27, 3) := by decide +kernel
theorem dX1_everDry_14 : decode cX1_everDry 14 = .ok (.iload_n 2, 1) := by decide +kernel
theorem dX1_everDry_15 : decode cX1_everDry 15 = .ok (.iaload, 1) := by decide +kernel
theorem dX1_everDry_16 : decode cX1_everDry 16 = .ok (.ifCond .le 9, 3) := by decide +kernel
theorem dX1_everDry_19 : decode cX1_everDry 19 = .ok (.iload_n 1, 1) := by decide +kernel
theorem dX1_everDry_20 : decode cX1_everDry 20 = .ok (.iconst 1, 1) := by decide +kernel
theorem dX1_everDry_21 : decode cX1_everDry 21 = .ok (.iload_n 2, 1) := by decide +kernel
theorem dX1_everDry_22 : decode cX1_everDry 22 = .ok (.ishl, 1) := by decide +kernel
theorem dX1_everDry_23 : decode cX1_everDry 23 = .ok (.ior, 1) := by decide +kernel
theorem dX1_everDry_24 : decode cX1_everDry 24 = .ok (.istore_n 1, 1) := by decide +kernel
theorem dX1_everDry_25 : decode cX1_everDry 25 = .ok (.iinc 2 1, 3) := by decide +kernel
theorem dX1_everDry_28 : decode cX1_everDry 28 = .ok (.goto (-24), 3) := by decide +kernel
theorem dX1_everDry_31 : decode cX1_everDry 31 = .ok (.iload_n 1, 1) := by decide +kernel
theorem dX1_everDry_32 : decode cX1_everDry 32 = .ok (.ireturn, 1) := by decide +kernel
theorem dX1_turnedSpouts_0 : decode cX1_turnedSpouts 0 = .ok (.iconst 0, 1) := by decide +kernel
theorem dX1_turnedSpouts_1 : decode cX1_turnedSpouts 1 = .ok (.istore_n 1, 1) := by decide +kernel
theorem dX1_turnedSpouts_2 : decode cX1_turnedSpouts 2 = .ok (.iconst 0, 1) := by decide +kernel
theorem dX1_turnedSpouts_3 : decode cX1_turnedSpouts 3 = .ok (.istore_n 2, 1) := by decide +kernel
theorem dX1_turnedSpouts_4 : decode cX1_turnedSpouts 4 = .ok (.iload_n 2, 1) := by decide +kernel
theorem dX1_turnedSpouts_5 : decode cX1_turnedSpouts 5 = .ok (.bipush 11, 2) := by decide +kernel
theorem dX1_turnedSpouts_7 : decode cX1_turnedSpouts 7 = .ok (.if_icmp .ge 20, 3) := by decide +kernel
theorem dX1_turnedSpouts_10 : decode cX1_turnedSpouts 10 = .ok (.iload_n 1, 1) := by decide +kernel
theorem dX1_turnedSpouts_11 : decode cX1_turnedSpouts 11 = .ok (.aload_n 0, 1) := by decide +kernel
theorem dX1_turnedSpouts_12 : decode cX1_turnedSpouts 12 = .ok (.getfield 24, 3) := by decide +kernel
theorem dX1_turnedSpouts_15 : decode cX1_turnedSpouts 15 = .ok (.iload_n 2, 1) := by decide +kernel
theorem dX1_turnedSpouts_16 : decode cX1_turnedSpouts 16 = .ok (.iaload, 1) := by decide +kernel
theorem dX1_turnedSpouts_17 : decode cX1_turnedSpouts 17 = .ok (.iload_n 2, 1) := by decide +kernel
theorem dX1_turnedSpouts_18 : decode cX1_turnedSpouts 18 = .ok (.ishl, 1) := by decide +kernel
theorem dX1_turnedSpouts_19 : decode cX1_turnedSpouts 19 = .ok (.ior, 1) := by decide +kernel
theorem dX1_turnedSpouts_20 : decode cX1_turnedSpouts 20 = .ok (.istore_n 1, 1) := by decide +kernel
theorem dX1_turnedSpouts_21 : decode cX1_turnedSpouts 21 = .ok (.iinc 2 1, 3) := by decide +kernel
theorem dX1_turnedSpouts_24 : decode cX1_turnedSpouts 24 = .ok (.goto (-20), 3) := by decide +kernel
theorem dX1_turnedSpouts_27 : decode cX1_turnedSpouts 27 = .ok (.iload_n 1, 1) := by decide +kernel
theorem dX1_turnedSpouts_28 : decode cX1_turnedSpouts 28 = .ok (.ireturn, 1) := by decide +kernel
theorem dX1_housesOfOtherKinds_0 : decode cX1_housesOfOtherKinds 0 = .ok (.iconst 0, 1) := by decide +kernel
theorem dX1_housesOfOtherKinds_1 : decode cX1_housesOfOtherKinds 1 = .ok (.istore_n 1, 1) := by decide +kernel
theorem dX1_housesOfOtherKinds_2 : decode cX1_housesOfOtherKinds 2 = .ok (.iconst 0, 1) := by decide +kernel
theorem dX1_housesOfOtherKinds_3 : decode cX1_housesOfOtherKinds 3 = .ok (.istore_n 2, 1) := by decide +kernel
theorem dX1_housesOfOtherKinds_4 : decode cX1_housesOfOtherKinds 4 = .ok (.iload_n 2, 1) := by decide +kernel
theorem dX1_housesOfOtherKinds_5 : decode cX1_housesOfOtherKinds 5 = .ok (.bipush 11, 2) := by decide +kernel
theorem dX1_housesOfOtherKinds_7 : decode cX1_housesOfOtherKinds 7 = .ok (.if_icmp .ge 21, 3) := by decide +kernel
theorem dX1_housesOfOtherKinds_10 : decode cX1_housesOfOtherKinds 10 = .ok (.aload_n 0, 1) := by decide +kernel
theorem dX1_housesOfOtherKinds_11 : decode cX1_housesOfOtherKinds 11 = .ok (.getfield 9, 3) := by decide +kernel
theorem dX1_housesOfOtherKinds_14 : decode cX1_housesOfOtherKinds 14 = .ok (.iload_n 2, 1) := by decide +kernel
theorem dX1_housesOfOtherKinds_15 : decode cX1_housesOfOtherKinds 15 = .ok (.iaload, 1) := by decide +kernel
theorem dX1_housesOfOtherKinds_16 : decode cX1_housesOfOtherKinds 16 = .ok (.ifCond .eq 6, 3) := by decide +kernel
theorem dX1_housesOfOtherKinds_19 : decode cX1_housesOfOtherKinds 19 = .ok (.iinc 1 1, 3) := by decide +kernel
theorem dX1_housesOfOtherKinds_22 : decode cX1_housesOfOtherKinds 22 = .ok (.iinc 2 1, 3) := by decide +kernel
theorem dX1_housesOfOtherKinds_25 : decode cX1_housesOfOtherKinds 25 = .ok (.goto (-21), 3) := by decide +kernel
theorem dX1_housesOfOtherKinds_28 : decode cX1_housesOfOtherKinds 28 = .ok (.iload_n 1, 1) := by decide +kernel
theorem dX1_housesOfOtherKinds_29 : decode cX1_housesOfOtherKinds 29 = .ok (.ireturn, 1) := by decide +kernel
theorem dX1_spotsHeld_0 : decode cX1_spotsHeld 0 = .ok (.iconst 0, 1) := by decide +kernel
theorem dX1_spotsHeld_1 : decode cX1_spotsHeld 1 = .ok (.istore_n 1, 1) := by decide +kernel
theorem dX1_spotsHeld_2 : decode cX1_spotsHeld 2 = .ok (.iconst 0, 1) := by decide +kernel
theorem dX1_spotsHeld_3 : decode cX1_spotsHeld 3 = .ok (.istore_n 2, 1) := by decide +kernel
theorem dX1_spotsHeld_4 : decode cX1_spotsHeld 4 = .ok (.iload_n 2, 1) := by decide +kernel
theorem dX1_spotsHeld_5 : decode cX1_spotsHeld 5 = .ok (.bipush 10, 2) := by decide +kernel
theorem dX1_spotsHeld_7 : decode cX1_spotsHeld 7 = .ok (.if_icmp .ge 22, 3) := by decide +kernel
theorem dX1_spotsHeld_10 : decode cX1_spotsHeld 10 = .ok (.aload_n 0, 1) := by decide +kernel
theorem dX1_spotsHeld_11 : decode cX1_spotsHeld 11 = .ok (.getfield 30, 3) := by decide +kernel
theorem dX1_spotsHeld_14 : decode cX1_spotsHeld 14 = .ok (.iload_n 2, 1) := by decide +kernel
theorem dX1_spotsHeld_15 : decode cX1_spotsHeld 15 = .ok (.iaload, 1) := by decide +kernel
theorem dX1_spotsHeld_16 : decode cX1_spotsHeld 16 = .ok (.iconst (-1), 1) := by decide +kernel
theorem dX1_spotsHeld_17 : decode cX1_spotsHeld 17 = .ok (.if_icmp .eq 6, 3) := by decide +kernel
theorem dX1_spotsHeld_20 : decode cX1_spotsHeld 20 = .ok (.iinc 1 1, 3) := by decide +kernel
theorem dX1_spotsHeld_23 : decode cX1_spotsHeld 23 = .ok (.iinc 2 1, 3) := by decide +kernel
theorem dX1_spotsHeld_26 : decode cX1_spotsHeld 26 = .ok (.goto (-22), 3) := by decide +kernel
theorem dX1_spotsHeld_29 : decode cX1_spotsHeld 29 = .ok (.iload_n 1, 1) := by decide +kernel
theorem dX1_spotsHeld_30 : decode cX1_spotsHeld 30 = .ok (.ireturn, 1) := by decide +kernel
theorem dX2_init_0 : decode cX2_init 0 = .ok (.aload_n 0, 1) := by decide +kernel
theorem dX2_init_1 : decode cX2_init 1 = .ok (.invokespecial 1, 3) := by decide +kernel
theorem dX2_init_4 : decode cX2_init 4 = .ok (.aload_n 0, 1) := by decide +kernel
theorem dX2_init_5 : decode cX2_init 5 = .ok (.bipush 40, 2) := by decide +kernel
theorem dX2_init_7 : decode cX2_init 7 = .ok (.newarray .int, 2) := by decide +kernel
theorem dX2_init_9 : decode cX2_init 9 = .ok (.putfield 9, 3) := by decide +kernel
theorem dX2_init_12 : decode cX2_init 12 = .ok (.return_, 1) := by decide +kernel
theorem dX2_isMissing_0 : decode cX2_isMissing 0 = .ok (.aload_n 0, 1) := by decide +kernel
theorem dX2_isMissing_1 : decode cX2_isMissing 1 = .ok (.getfield 13, 3) := by decide +kernel
theorem dX2_isMissing_4 : decode cX2_isMissing 4 = .ok (.ifCond .ne 7, 3) := by decide +kernel
theorem dX2_isMissing_7 : decode cX2_isMissing 7 = .ok (.iconst 1, 1) := by decide +kernel
theorem dX2_isMissing_8 : decode cX2_isMissing 8 = .ok (.goto 4, 3) := by decide +kernel
theorem dX2_isMissing_11 : decode cX2_isMissing 11 = .ok (.iconst 0, 1) := by decide +kernel
theorem dX2_isMissing_12 : decode cX2_isMissing 12 = .ok (.ireturn, 1) := by decide +kernel
set_option maxRecDepth 20000 in
theorem ggX2_begin_J7_fill_53178 : GoodIn wsX2_begin wsJ7_fill_53178 := goodIn_r _ [7] (by decide +kernel) (by decide +kernel)
set_option maxRecDepth 20000 in
theorem gX2_begin_J7_fill_53178 : GoodIn wsX2_begin (va_wsS RX2 20 yJ7_fill_53178 wsJ7_fill_53178) := goodIn_app (goodIn_of _ (by decide +kernel)) ggX2_begin_J7_fill_53178
theorem dX2_begin_0 : decode cX2_begin 0 = .ok (.aload_n 0, 1) := by decide +kernel
theorem dX2_begin_1 : decode cX2_begin 1 = .ok (.iload_n 1, 1) := by decide +kernel
theorem dX2_begin_2 : decode cX2_begin 2 = .ok (.putfield 13, 3) := by decide +kernel
theorem dX2_begin_5 : decode cX2_begin 5 = .ok (.aload_n 0, 1) := by decide +kernel
theorem dX2_begin_6 : decode cX2_begin 6 = .ok (.iload_n 2, 1) := by decide +kernel
theorem dX2_begin_7 : decode cX2_begin 7 = .ok (.putfield 17, 3) := by decide +kernel
theorem dX2_begin_10 : decode cX2_begin 10 = .ok (.aload_n 0, 1) := by decide +kernel
theorem dX2_begin_11 : decode cX2_begin 11 = .ok (.getfield 9, 3) := by decide +kernel
theorem dX2_begin_14 : decode cX2_begin 14 = .ok (.iconst 0, 1) := by decide +kernel
theorem dX2_begin_15 : decode cX2_begin 15 = .ok (.invokestatic 20, 3) := by decide +kernel
theorem dX2_begin_18 : decode cX2_begin 18 = .ok (.return_, 1) := by decide +kernel
theorem dX2_put_0 : decode cX2_put 0 = .ok (.aload_n 0, 1) := by decide +kernel
theorem dX2_put_1 : decode cX2_put 1 = .ok (.getfield 9, 3) := by decide +kernel
theorem dX2_put_4 : decode cX2_put 4 = .ok (.iload_n 1, 1) := by decide +kernel
theorem dX2_put_5 : decode cX2_put 5 = .ok (.aload_n 0, 1) := by decide +kernel
theorem dX2_put_6 : decode cX2_put 6 = .ok (.getfield 13, 3) := by decide +kernel
theorem dX2_put_9 : decode cX2_put 9 = .ok (.bipush 8, 2) := by decide +kernel
theorem dX2_put_11 : decode cX2_put 11 = .ok (.if_icmp .ne 8, 3) := by decide +kernel
theorem dX2_put_14 : decode cX2_put 14 = .ok (.iload_n 2, 1) := by decide +kernel
theorem dX2_put_15 : decode cX2_put 15 = .ok (.i2b, 1) := by decide +kernel
theorem dX2_put_16 : decode cX2_put 16 = .ok (.goto 18, 3) := by decide +kernel
theorem dX2_put_19 : decode cX2_put 19 = .ok (.aload_n 0, 1) := by decide +kernel
theorem dX2_put_20 : decode cX2_put 20 = .ok (.getfield 13, 3) := by decide +kernel
theorem dX2_put_23 : decode cX2_put 23 = .ok (.bipush 16, 2) := by decide +kernel
theorem dX2_put_25 : decode cX2_put 25 = .ok (.if_icmp .ne 8, 3) := by decide +kernel
theorem dX2_put_28 : decode cX2_put 28 = .ok (.iload_n 2, 1) := by decide +kernel
theorem dX2_put_29 : decode cX2_put 29 = .ok (.i2s, 1) := by decide +kernel
theorem dX2_put_30 : decode cX2_put 30 = .ok (.goto 4, 3) := by decide +kernel
theorem dX2_put_33 : decode cX2_put 33 = .ok (.iload_n 2, 1) := by decide +kernel
theorem dX2_put_34 : decode cX2_put 34 = .ok (.iastore, 1) := by decide +kernel
theorem dX2_put_35 : decode cX2_put 35 = .ok (.return_, 1) := by decide +kernel
theorem dX2_hasRun_0 : decode cX2_hasRun 0 = .ok (.iload_n 1, 1) := by decide +kernel
theorem dX2_hasRun_1 : decode cX2_hasRun 1 = .ok (.ifCond .lt 29, 3) := by decide +kernel
theorem dX2_hasRun_4 : decode cX2_hasRun 4 = .ok (.iload_n 2, 1) := by decide +kernel
theorem dX2_hasRun_5 : decode cX2_hasRun 5 = .ok (.ifCond .lt 25, 3) := by decide +kernel
theorem dX2_hasRun_8 : decode cX2_hasRun 8 = .ok (.iload_n 1, 1) := by decide +kernel
theorem dX2_hasRun_9 : decode cX2_hasRun 9 = .ok (.aload_n 0, 1) := by decide +kernel
theorem dX2_hasRun_10 : decode cX2_hasRun 10 = .ok (.getfield 17, 3) := by decide +kernel
theorem dX2_hasRun_13 : decode cX2_hasRun 13 = .ok (.if_icmp .gt 17, 3) := by decide +kernel
theorem dX2_hasRun_16 : decode cX2_hasRun 16 = .ok (.iload_n 2, 1) := by decide +kernel
theorem dX2_hasRun_17 : decode cX2_hasRun 17 = .ok (.aload_n 0, 1) := by decide +kernel
theorem dX2_hasRun_18 : decode cX2_hasRun 18 = .ok (.getfield 17, 3) := by decide +kernel
theorem dX2_hasRun_21 : decode cX2_hasRun 21 = .ok (.iload_n 1, 1) := by decide +kernel
theorem dX2_hasRun_22 : decode cX2_hasRun 22 = .ok (.isub, 1) := by decide +kernel
theorem dX2_hasRun_23 : decode cX2_hasRun 23 = .ok (.if_icmp .gt 7, 3) := by decide +kernel
theorem dX2_hasRun_26 : decode cX2_hasRun 26 = .ok (.iconst 1, 1) := by decide +kernel
theorem dX2_hasRun_27 : decode cX2_hasRun 27 = .ok (.goto 4, 3) := by decide +kernel
theorem dX2_hasRun_30 : decode cX2_hasRun 30 = .ok (.iconst 0, 1) := by decide +kernel
theorem dX2_hasRun_31 : decode cX2_hasRun 31 = .ok (.ireturn, 1) := by decide +kernel
theorem dX3_init_0 : decode cX3_init 0 = .ok (.aload_n 0, 1) := by decide +kernel
theorem dX3_init_1 : decode cX3_init 1 = .ok (.invokespecial 1, 3) := by decide +kernel
theorem dX3_init_4 : decode cX3_init 4 = .ok (.aload_n 0, 1) := by decide +kernel
theorem dX3_init_5 : decode cX3_init 5 = .ok (.bipush 120, 2) := by decide +kernel
theorem dX3_init_7 : decode cX3_init 7 = .ok (.newarray .int, 2) := by decide +kernel
theorem dX3_init_9 : decode cX3_init 9 = .ok (.putfield 9, 3) := by decide +kernel
theorem dX3_init_12 : decode cX3_init 12 = .ok (.return_, 1) := by decide +kernel
theorem dX3_add_0 : decode cX3_add 0 = .ok (.aload_n 0, 1) := by decide +kernel
theorem dX3_add_1 : decode cX3_add 1 = .ok (.getfield 13, 3) := by decide +kernel
theorem dX3_add_4 : decode cX3_add 4 = .ok (.bipush 120, 2) := by decide +kernel
theorem dX3_add_6 : decode cX3_add 6 = .ok (.if_icmp .ge 23, 3) := by decide +kernel
theorem dX3_add_9 : decode cX3_add 9 = .ok (.aload_n 0, 1) := by decide +kernel
theorem dX3_add_10 : decode cX3_add 10 = .ok (.getfield 9, 3) := by decide +kernel
theorem dX3_add_13 : decode cX3_add 13 = .ok (.aload_n 0, 1) := by decide +kernel
theorem dX3_add_14 : decode cX3_add 14 = .ok (.getfield 13, 3) := by decide +kernel
theorem dX3_add_17 : decode cX3_add 17 = .ok (.iload_n 1, 1) := by decide +kernel
theorem dX3_add_18 : decode cX3_add 18 = .ok (.iastore, 1) := by decide +kernel
theorem dX3_add_19 : decode cX3_add 19 = .ok (.aload_n 0, 1) := by decide +kernel
theorem dX3_add_20 : decode cX3_add 20 = .ok (.dup, 1) := by decide +kernel
theorem dX3_add_21 : decode cX3_add 21 = .ok (.getfield 13, 3) := by decide +kernel
theorem dX3_add_24 : decode cX3_add 24 = .ok (.iconst 1, 1) := by decide +kernel
theorem dX3_add_25 : decode cX3_add 25 = .ok (.iadd, 1) := by decide +kernel
theorem dX3_add_26 : decode cX3_add 26 = .ok (.putfield 13, 3) := by decide +kernel
theorem dX3_add_29 : decode cX3_add 29 = .ok (.return_, 1) := by decide +kernel
theorem dX3_isBetween_0 : decode cX3_isBetween 0 = .ok (.iload_n 1, 1) := by decide +kernel
theorem dX3_isBetween_1 : decode cX3_isBetween 1 = .ok (.aload_n 0, 1) := by decide +kernel
theorem dX3_isBetween_2 : decode cX3_isBetween 2 = .ok (.getfield 13, 3) := by decide +kernel
theorem dX3_isBetween_5 : decode cX3_isBetween 5 = .ok (.if_icmp .ge 27, 3) := by decide +kernel
theorem dX3_isBetween_8 : decode cX3_isBetween 8 = .ok (.aload_n 0, 1) := by decide +kernel
theorem dX3_isBetween_9 : decode cX3_isBetween 9 = .ok (.getfield 9, 3) := by decide +kernel
theorem dX3_isBetween_12 : decode cX3_isBetween 12 = .ok (.iload_n 1, 1) := by decide +kernel
theorem dX3_isBetween_13 : decode cX3_isBetween 13 = .ok (.iaload, 1) := by decide +kernel
theorem dX3_isBetween_14 : decode cX3_isBetween 14 = .ok (.iload_n 2, 1) := by decide +kernel
theorem dX3_isBetween_15 : decode cX3_isBetween 15 = .ok (.if_icmp .lt 17, 3) := by decide +kernel
theorem dX3_isBetween_18 : decode cX3_isBetween 18 = .ok (.aload_n 0, 1) := by decide +kernel
theorem dX3_isBetween_19 : decode cX3_isBetween 19 = .ok (.getfield 9, 3) := by decide +kernel
theorem dX3_isBetween_22 : decode cX3_isBetween 22 = .ok (.iload_n 1, 1) := by decide +kernel
theorem dX3_isBetween_23 : decode cX3_isBetween 23 = .ok (.iaload, 1) := by decide +kernel
theorem dX3_isBetween_24 : decode cX3_isBetween 24 = .ok (.iload_n 3, 1) := by decide +kernel
theorem dX3_isBetween_25 : decode cX3_isBetween 25 = .ok (.if_icmp .gt 7, 3) := by decide +kernel
theorem dX3_isBetween_28 : decode cX3_isBetween 28 = .ok (.iconst 1, 1) := by decide +kernel
theorem dX3_isBetween_29 : decode cX3_isBetween 29 = .ok (.goto 4, 3) := by decide +kernel
theorem dX3_isBetween_32 : decode cX3_isBetween 32 = .ok (.iconst 0, 1) := by decide +kernel
theorem dX3_isBetween_33 : decode cX3_isBetween 33 = .ok (.ireturn, 1) := by decide +kernel
theorem dX4_init_0 : decode cX4_init 0 = .ok (.aload_n 0, 1) := by decide +kernel
theorem dX4_init_1 : decode cX4_init 1 = .ok (.invokespecial 3, 3) := by decide +kernel
theorem dX4_init_4 : decode cX4_init 4 = .ok (.aload_n 0, 1) := by decide +kernel
theorem dX4_init_5 : decode cX4_init 5 = .ok (.aload_n 1, 1) := by decide +kernel
theorem dX4_init_6 : decode cX4_init 6 = .ok (.putfield 9, 3) := by decide +kernel
theorem dX4_init_9 : decode cX4_init 9 = .ok (.return_, 1) := by decide +kernel
set_option maxRecDepth 20000 in
theorem ggX4_readInto_X4_nextToken : GoodIn wsX4_readInto wsX4_nextToken := goodIn_r _ [8, 1, 3, 9, 10, 11, 2, 12, 13, 14, 15, 16, 17, 18, 19, 20, 21, 7, 22, 23, 24, 25, 26, 27, 28, 29, 30, 31, 118, 119, 120, 121, 122, 123, 124] (by decide +kernel) (by decide +kernel)
set_option maxRecDepth 20000 in
theorem gX4_readInto_X4_nextToken : GoodIn wsX4_readInto (wsV RX4 19 RX4 yX4_nextToken wsX4_nextToken) := goodIn_app (goodIn_of _ (by decide +kernel)) ggX4_readInto_X4_nextToken
set_option maxRecDepth 20000 in
theorem ggX4_readInto_X4_readItem : GoodIn wsX4_readInto wsX4_readItem := goodIn_r _ [35, 27, 36, 37, 38, 39, 40, 41, 42, 7, 43, 2, 1, 3, 9, 11, 44, 45, 46, 47, 48, 49, 50, 51, 52, 53, 54, 55, 56, 57, 58, 59, 60, 61, 62, 63, 64, 65, 66, 67, 68, 69, 70, 71, 72, 73, 74, 75, 76, 77, 78, 79, 80, 81, 82, 83, 84, 85, 86, 87, 88, 89, 90, 91, 92, 93, 94, 95, 96, 97, 4, 5, 6, 8, 10, 12, 13, 14, 15, 16, 17, 18, 19, 20, 21, 22, 23, 24, 25, 26, 28, 29, 30, 31, 98, 99, 100, 101, 102, 103, 104, 105, 106, 107, 108, 109, 110, 111, 112, 113, 114, 115, 116, 117, 118, 119, 120, 121, 122, 125, 126, 127, 128, 129, 130, 131, 132, 133, 134, 135, 136, 123, 124] (by decide +kernel) (by decide +kernel)
set_option maxRecDepth 20000 in
theorem gX4_readInto_X4_readItem : GoodIn wsX4_readInto (wsV RX4 22 RX4 yX4_readItem wsX4_readItem) := goodIn_app (goodIn_of _ (by decide +kernel)) ggX4_readInto_X4_readItem
theorem dX4_readInto_0 : decode cX4_readInto 0 = .ok (.aload_n 0, 1) := by decide +kernel
theorem dX4_readInto_1 : decode cX4_readInto 1 = .ok (.iconst 0, 1) := by decide +kernel
theorem dX4_readInto_2 : decode cX4_readInto 2 = .ok (.putfield 15, 3) := by decide +kernel
theorem dX4_readInto_5 : decode cX4_readInto 5 = .ok (.aload_n 0, 1) := by decide +kernel
theorem dX4_readInto_6 : decode cX4_readInto 6 = .ok (.invokevirtual 19, 3) := by decide +kernel
theorem dX4_readInto_9 : decode cX4_readInto 9 = .ok (.aload_n 0, 1) := by decide +kernel
theorem dX4_readInto_10 : decode cX4_readInto 10 = .ok (.aload_n 1, 1) := by decide +kernel
theorem dX4_readInto_11 : decode cX4_readInto 11 = .ok (.invokevirtual 22, 3) := by decide +kernel
theorem dX4_readInto_14 : decode cX4_readInto 14 = .ok (.istore_n 2, 1) := by decide +kernel
theorem dX4_readInto_15 : decode cX4_readInto 15 = .ok (.iconst 1, 1) := by decide +kernel
theorem dX4_readInto_16 : decode cX4_readInto 16 = .ok (.istore_n 3, 1) := by decide +kernel
theorem dX4_readInto_17 : decode cX4_readInto 17 = .ok (.iload_n 2, 1) := by decide +kernel
theorem dX4_readInto_18 : decode cX4_readInto 18 = .ok (.ifCond .eq 33, 3) := by decide +kernel
theorem dX4_readInto_21 : decode cX4_readInto 21 = .ok (.aload_n 0, 1) := by decide +kernel
theorem dX4_readInto_22 : decode cX4_readInto 22 = .ok (.getfield 26, 3) := by decide +kernel
theorem dX4_readInto_25 : decode cX4_readInto 25 = .ok (.iconst 3, 1) := by decide +kernel
theorem dX4_readInto_26 : decode cX4_readInto 26 = .ok (.if_icmp .ne 25, 3) := by decide +kernel
theorem dX4_readInto_29 : decode cX4_readInto 29 = .ok (.iload_n 3, 1) := by decide +kernel
theorem dX4_readInto_30 : decode cX4_readInto 30 = .ok (.bipush 120, 2) := by decide +kernel
theorem dX4_readInto_32 : decode cX4_readInto 32 = .ok (.if_icmp .ge 19, 3) := by decide +kernel
theorem dX4_readInto_35 : decode cX4_readInto 35 = .ok (.aload_n 0, 1) := by decide +kernel
theorem dX4_readInto_36 : decode cX4_readInto 36 = .ok (.invokevirtual 19, 3) := by decide +kernel
theorem dX4_readInto_39 : decode cX4_readInto 39 = .ok (.aload_n 0, 1) := by decide +kernel
theorem dX4_readInto_40 : decode cX4_readInto 40 = .ok (.aload_n 1, 1) := by decide +kernel
theorem dX4_readInto_41 : decode cX4_readInto 41 = .ok (.invokevirtual 22, 3) := by decide +kernel
theorem dX4_readInto_44 : decode cX4_readInto 44 = .ok (.istore_n 2, 1) := by decide +kernel
theorem dX4_readInto_45 : decode cX4_readInto 45 = .ok (.iinc 3 1, 3) := by decide +kernel
theorem dX4_readInto_48 : decode cX4_readInto 48 = .ok (.goto (-31), 3) := by decide +kernel
theorem dX4_readInto_51 : decode cX4_readInto 51 = .ok (.iload_n 2, 1) := by decide +kernel
theorem dX4_readInto_52 : decode cX4_readInto 52 = .ok (.ifCond .eq 14, 3) := by decide +kernel
theorem dX4_readInto_55 : decode cX4_readInto 55 = .ok (.aload_n 0, 1) := by decide +kernel
theorem dX4_readInto_56 : decode cX4_readInto 56 = .ok (.getfield 26, 3) := by decide +kernel
theorem dX4_readInto_59 : decode cX4_readInto 59 = .ok (.ifCond .ne 7, 3) := by decide +kernel
theorem dX4_readInto_62 : decode cX4_readInto 62 = .ok (.iload_n 3, 1) := by decide +kernel
theorem dX4_readInto_63 : decode cX4_readInto 63 = .ok (.goto 9, 3) := by decide +kernel
theorem dX4_readInto_66 : decode cX4_readInto 66 = .ok (.iconst (-1), 1) := by decide +kernel
theorem dX4_readInto_67 : decode cX4_readInto 67 = .ok (.aload_n 0, 1) := by decide +kernel
theorem dX4_readInto_68 : decode cX4_readInto 68 = .ok (.getfield 31, 3) := by decide +kernel
theorem dX4_readInto_71 : decode cX4_readInto 71 = .ok (.isub, 1) := by decide +kernel
theorem dX4_readInto_72 : decode cX4_readInto 72 = .ok (.ireturn, 1) := by decide +kernel
set_option maxRecDepth 20000 in
theorem ggX4_readItem_X4_isWord : GoodIn wsX4_readItem wsX4_isWord := goodIn_r _ [10, 11, 12, 13, 14, 15, 16, 17, 18, 19, 20, 21, 22, 23, 24, 25, 26, 27, 28, 29, 30, 31, 32, 33, 34, 35, 36, 37, 38, 39, 40, 41, 42, 43, 44, 45, 46, 47, 48, 49, 50, 51, 52, 53, 54, 55, 56, 57, 58, 59, 60, 61, 62, 63, 64, 114, 115, 116, 117, 118, 131, 132] (by decide +kernel) (by decide +kernel)
set_option maxRecDepth 20000 in
theorem gX4_readItem_X4_isWord : GoodIn wsX4_readItem (wsV RX4 36 RX4 yX4_isWord wsX4_isWord) := goodIn_app (goodIn_of _ (by decide +kernel)) ggX4_readItem_X4_isWord
set_option maxRecDepth 20000 in
theorem ggX4_readItem_X4_readRain : GoodIn wsX4_readItem wsX4_readRain := goodIn_r _ [68, 1, 69, 70, 71, 72, 9, 73, 12, 13, 14, 74, 15, 11, 75, 76, 77, 78, 79, 80, 81, 82, 83, 84, 85, 86, 87, 88, 89, 90, 91, 92, 93, 94, 95, 96, 97, 114, 115, 116, 117, 118, 119, 120, 121, 122, 123, 124, 125, 126, 127, 128, 129, 130, 131, 132] (by decide +kernel) (by decide +kernel)
set_option maxRecDepth 20000 in
theorem gX4_readItem_X4_readRain : GoodIn wsX4_readItem (wsV RX4 40 RX4 yX4_readRain wsX4_readRain) := goodIn_app (goodIn_of _ (by decide +kernel)) ggX4_readItem_X4_readRain
set_option maxRecDepth 20000 in
theorem ggX4_readItem_X4_kindOfWord : GoodIn wsX4_readItem wsX4_kindOfWord := goodIn_r _ [101, 102, 103, 9, 104, 6, 7, 8, 10, 11, 12, 13, 14, 15, 16, 17, 18, 19, 20, 21, 22, 23, 24, 25, 26, 27, 28, 29, 30, 31, 32, 33, 34, 35, 36, 37, 38, 39, 40, 41, 42, 43, 44, 45, 46, 47, 48, 49, 50, 51, 52, 53, 54, 55, 56, 57, 58, 59, 60, 61, 62, 63, 64, 114, 115, 116, 117, 118, 131, 132] (by decide +kernel) (by decide +kernel)
set_option maxRecDepth 20000 in
theorem gX4_readItem_X4_kindOfWord : GoodIn wsX4_readItem (wsV RX4 43 RX4 yX4_kindOfWord wsX4_kindOfWord) := goodIn_app (goodIn_of _ (by decide +kernel)) ggX4_readItem_X4_kindOfWord
set_option maxRecDepth 20000 in
theorem ggX4_readItem_X4_nextToken : GoodIn wsX4_readItem wsX4_nextToken := goodIn_r _ [73, 12, 13, 14, 74, 15, 11, 75, 76, 77, 78, 79, 80, 81, 82, 83, 84, 9, 85, 86, 87, 88, 89, 1, 90, 91, 92, 93, 114, 115, 116, 117, 118, 131, 132] (by decide +kernel) (by decide +kernel)
set_option maxRecDepth 20000 in
theorem gX4_readItem_X4_nextToken : GoodIn wsX4_readItem (wsV RX4 19 RX4 yX4_nextToken wsX4_nextToken) := goodIn_app (goodIn_of _ (by decide +kernel)) ggX4_readItem_X4_nextToken
set_option maxRecDepth 20000 in
theorem ggX4_readItem_X4_isNumber : GoodIn wsX4_readItem wsX4_isNumber := goodIn_r _ [97, 11, 1, 114, 115, 116, 117, 118] (by decide +kernel) (by decide +kernel)
set_option maxRecDepth 20000 in
theorem gX4_readItem_X4_isNumber : GoodIn wsX4_readItem (wsV RX4 47 RX4 yX4_isNumber wsX4_isNumber) := goodIn_app (goodIn_of _ (by decide +kernel)) ggX4_readItem_X4_isNumber
set_option maxRecDepth 20000 in
theorem ggX4_readItem_X4_readPart : GoodIn wsX4_readItem wsX4_readPart := goodIn_r _ [108, 1, 6, 7, 8, 9, 10, 11, 12, 13, 14, 15, 16, 17, 18, 19, 20, 21, 22, 23, 24, 25, 26, 27, 28, 29, 30, 31, 32, 33, 34, 35, 36, 37, 38, 39, 40, 41, 42, 43, 44, 45, 46, 47, 48, 49, 50, 51, 52, 53, 54, 55, 56, 57, 58, 59, 60, 61, 62, 63, 64, 70, 71, 72, 73, 74, 75, 76, 77, 78, 79, 80, 81, 82, 83, 84, 85, 86, 87, 88, 89, 90, 91, 92, 93, 94, 95, 96, 97, 114, 115, 116, 117, 118, 131, 132] (by decide +kernel) (by decide +kernel)
set_option maxRecDepth 20000 in
theorem gX4_readItem_X4_readPart : GoodIn wsX4_readItem (wsV RX4 65 RX4 yX4_readPart wsX4_readPart) := goodIn_app (goodIn_of _ (by decide +kernel)) ggX4_readItem_X4_readPart
set_option maxRecDepth 20000 in
theorem ggX4_readItem_X4_readSpout : GoodIn wsX4_readItem wsX4_readSpout := goodIn_r _ [112, 113, 6, 7, 8, 9, 10, 11, 12, 13, 14, 15, 16, 17, 18, 19, 20, 21, 22, 23, 24, 25, 26, 27, 28, 29, 30, 31, 32, 33, 34, 35, 36, 37, 38, 39, 40, 41, 42, 43, 44, 45, 46, 47, 48, 49, 50, 51, 52, 53, 54, 55, 56, 57, 58, 59, 60, 61, 62, 63, 64, 70, 71, 72, 73, 74, 75, 76, 77, 78, 79, 80, 81, 82, 83, 84, 85, 86, 87, 88, 89, 1, 90, 91, 92, 93, 119, 120, 121, 122, 123, 124, 125, 126, 127, 128, 129, 130, 114, 115, 116, 117, 118, 131, 132] (by decide +kernel) (by decide +kernel)
set_option maxRecDepth 20000 in
theorem gX4_readItem_X4_readSpout : GoodIn wsX4_readItem (wsV RX4 78 RX4 yX4_readSpout wsX4_readSpout) := goodIn_app (goodIn_of _ (by decide +kernel)) ggX4_readItem_X4_readSpout
theorem dX4_readItem_0 : decode cX4_readItem 0 = .ok (.aload_n 0, 1) := by decide +kernel
theorem dX4_readItem_1 : decode cX4_readItem 1 = .ok (.ldc 34, 2) := by decide +kernel
theorem dX4_readItem_3 : decode cX4_readItem 3 = .ok (.invokevirtual 36, 3) := by decide +kernel
theorem dX4_readItem_6 : decode cX4_readItem 6 = .ok (.ifCond .eq 9, 3) := by decide +kernel
theorem dX4_readItem_9 : decode cX4_readItem 9 = .ok (.aload_n 0, 1) := by decide +kernel
theorem dX4_readItem_10 : decode cX4_readItem 10 = .ok (.aload_n 1, 1) := by decide +kernel
theorem dX4_readItem_11 : decode cX4_readItem 11 = .ok (.invokevirtual 40, 3) := by decide +kernel
theorem dX4_readItem_14 : decode cX4_readItem 14 = .ok (.ireturn, 1) := by decide +kernel
theorem dX4_readItem_15 : decode cX4_readItem 15 = .ok (.aload_n 0, 1) := by decide +kernel
theorem dX4_readItem_16 : decode cX4_readItem 16 = .ok (.invokevirtual 43, 3) := by decide +kernel
theorem dX4_readItem_19 : decode cX4_readItem 19 = .ok (.istore_n 2, 1) := by decide +kernel
theorem dX4_readItem_20 : decode cX4_readItem 20 = .ok (.iload_n 2, 1) := by decide +kernel
theorem dX4_readItem_21 : decode cX4_readItem 21 = .ok (.ifCond .ge 5, 3) := by decide +kernel
theorem dX4_readItem_24 : decode cX4_readItem 24 = .ok (.iconst 0, 1) := by decide +kernel
theorem dX4_readItem_25 : decode cX4_readItem 25 = .ok (.ireturn, 1) := by decide +kernel
theorem dX4_readItem_26 : decode cX4_readItem 26 = .ok (.aload_n 0, 1) := by decide +kernel
theorem dX4_readItem_27 : decode cX4_readItem 27 = .ok (.invokevirtual 19, 3) := by decide +kernel
theorem dX4_readItem_30 : decode cX4_readItem 30 = .ok (.aload_n 0, 1) := by decide +kernel
theorem dX4_readItem_31 : decode cX4_readItem 31 = .ok (.bipush 10, 2) := by decide +kernel
theorem dX4_readItem_33 : decode cX4_readItem 33 = .ok (.invokevirtual 47, 3) := by decide +kernel
theorem dX4_readItem_36 : decode cX4_readItem 36 = .ok (.ifCond .ne 5, 3) := by decide +kernel
theorem dX4_readItem_39 : decode cX4_readItem 39 = .ok (.iconst 0, 1) := by decide +kernel
theorem dX4_readItem_40 : decode cX4_readItem 40 = .ok (.ireturn, 1) := by decide +kernel
theorem dX4_readItem_41 : decode cX4_readItem 41 = .ok (.aload_n 0, 1) := by decide +kernel
theorem dX4_readItem_42 : decode cX4_readItem 42 = .ok (.getfield 51, 3) := by decide +kernel
theorem dX4_readItem_45 : decode cX4_readItem 45 = .ok (.istore_n 3, 1) := by decide +kernel
theorem dX4_readItem_46 : decode cX4_readItem 46 = .ok (.aload_n 1, 1) := by decide +kernel
theorem dX4_readItem_47 : decode cX4_readItem 47 = .ok (.getfield 54, 3) := by decide +kernel
theorem dX4_readItem_50 : decode cX4_readItem 50 = .ok (.iload_n 3, 1) := by decide +kernel
theorem dX4_readItem_51 : decode cX4_readItem 51 = .ok (.iload_n 2, 1) := by decide +kernel
theorem dX4_readItem_52 : decode cX4_readItem 52 = .ok (.iastore, 1) := by decide +kernel
theorem dX4_readItem_53 : decode cX4_readItem 53 = .ok (.aload_n 0, 1) := by decide +kernel
theorem dX4_readItem_54 : decode cX4_readItem 54 = .ok (.invokevirtual 19, 3) := by decide +kernel
theorem dX4_readItem_57 : decode cX4_readItem 57 = .ok (.aload_n 0, 1) := by decide +kernel
theorem dX4_readItem_58 : decode cX4_readItem 58 = .ok (.ldc 60, 2) := by decide +kernel
theorem dX4_readItem_60 : decode cX4_readItem 60 = .ok (.aload_n 1, 1) := by decide +kernel
theorem dX4_readItem_61 : decode cX4_readItem 61 = .ok (.getfield 62, 3) := by decide +kernel
theorem dX4_readItem_64 : decode cX4_readItem 64 = .ok (.iload_n 3, 1) := by decide +kernel
theorem dX4_readItem_65 : decode cX4_readItem 65 = .ok (.sipush 9999, 3) := by decide +kernel
theorem dX4_readItem_68 : decode cX4_readItem 68 = .ok (.invokevirtual 65, 3) := by decide +kernel
theorem dX4_readItem_71 : decode cX4_readItem 71 = .ok (.ifCond .eq 49, 3) := by decide +kernel
theorem dX4_readItem_74 : decode cX4_readItem 74 = .ok (.aload_n 0, 1) := by decide +kernel
theorem dX4_readItem_75 : decode cX4_readItem 75 = .ok (.ldc 69, 2) := by decide +kernel
theorem dX4_readItem_77 : decode cX4_readItem 77 = .ok (.aload_n 1, 1) := by decide +kernel
theorem dX4_readItem_78 : decode cX4_readItem 78 = .ok (.getfield 71, 3) := by decide +kernel
theorem dX4_readItem_81 : decode cX4_readItem 81 = .ok (.iload_n 3, 1) := by decide +kernel
theorem dX4_readItem_82 : decode cX4_readItem 82 = .ok (.bipush 99, 2) := by decide +kernel
theorem dX4_readItem_84 : decode cX4_readItem 84 = .ok (.invokevirtual 65, 3) := by decide +kernel
theorem dX4_readItem_87 : decode cX4_readItem 87 = .ok (.ifCond .eq 33, 3) := by decide +kernel
theorem dX4_readItem_90 : decode cX4_readItem 90 = .ok (.aload_n 0, 1) := by decide +kernel
theorem dX4_readItem_91 : decode cX4_readItem 91 = .ok (.ldc 74, 2) := by decide +kernel
theorem dX4_readItem_93 : decode cX4_readItem 93 = .ok (.aload_n 1, 1) := by decide +kernel
theorem dX4_readItem_94 : decode cX4_readItem 94 = .ok (.getfield 76, 3) := by decide +kernel
theorem dX4_readItem_97 : decode cX4_readItem 97 = .ok (.iload_n 3, 1) := by decide +kernel
theorem dX4_readItem_98 : decode cX4_readItem 98 = .ok (.sipush 999, 3) := by decide +kernel
theorem dX4_readItem_101 : decode cX4_readItem 101 = .ok (.invokevirtual 65, 3) := by decide +kernel
theorem dX4_readItem_104 : decode cX4_readItem 104 = .ok (.ifCond .eq 16, 3) := by decide +kernel
theorem dX4_readItem_107 : decode cX4_readItem 107 = .ok (.aload_n 0, 1) := by decide +kernel
theorem dX4_readItem_108 : decode cX4_readItem 108 = .ok (.aload_n 1, 1) := by decide +kernel
theorem dX4_readItem_109 : decode cX4_readItem 109 = .ok (.iload_n 3, 1) := by decide +kernel
theorem dX4_readItem_110 : decode cX4_readItem 110 = .ok (.invokevirtual 78, 3) := by decide +kernel
theorem dX4_readItem_113 : decode cX4_readItem 113 = .ok (.ifCond .eq 7, 3) := by decide +kernel
theorem dX4_readItem_116 : decode cX4_readItem 116 = .ok (.iconst 1, 1) := by decide +kernel
theorem dX4_readItem_117 : decode cX4_readItem 117 = .ok (.goto 4, 3) := by decide +kernel
theorem dX4_readItem_120 : decode cX4_readItem 120 = .ok (.iconst 0, 1) := by decide +kernel
theorem dX4_readItem_121 : decode cX4_readItem 121 = .ok (.ireturn, 1) := by decide +kernel
set_option maxRecDepth 20000 in
theorem ggX4_readRain_X4_nextToken : GoodIn wsX4_readRain wsX4_nextToken := goodIn_r _ [7, 8, 9, 10, 11, 12, 13, 14, 15, 16, 17, 18, 19, 20, 21, 22, 23, 6, 24, 25, 26, 27, 28, 1, 29, 30, 31, 32, 37, 38, 39, 40, 41, 54, 55] (by decide +kernel) (by decide +kernel)
set_option maxRecDepth 20000 in
theorem gX4_readRain_X4_nextToken : GoodIn wsX4_readRain (wsV RX4 19 RX4 yX4_nextToken wsX4_nextToken) := goodIn_app (goodIn_of _ (by decide +kernel)) ggX4_readRain_X4_nextToken
set_option maxRecDepth 20000 in
theorem ggX4_readRain_X4_isNumber : GoodIn wsX4_readRain wsX4_isNumber := goodIn_r _ [36, 13, 1, 37, 38, 39, 40, 41] (by decide +kernel) (by decide +kernel)
set_option maxRecDepth 20000 in
theorem gX4_readRain_X4_isNumber : GoodIn wsX4_readRain (wsV RX4 47 RX4 yX4_isNumber wsX4_isNumber) := goodIn_app (goodIn_of _ (by decide +kernel)) ggX4_readRain_X4_isNumber
theorem dX4_readRain_0 : decode cX4_readRain 0 = .ok (.aload_n 0, 1) := by decide +kernel
theorem dX4_readRain_1 : decode cX4_readRain 1 = .ok (.invokevirtual 19, 3) := by decide +kernel
theorem dX4_readRain_4 : decode cX4_readRain 4 = .ok (.aload_n 0, 1) := by decide +kernel
theorem dX4_readRain_5 : decode cX4_readRain 5 = .ok (.sipush 999, 3) := by decide +kernel
theorem dX4_readRain_8 : decode cX4_readRain 8 = .ok (.invokevirtual 47, 3) := by decide +kernel
theorem dX4_readRain_11 : decode cX4_readRain 11 = .ok (.ifCond .ne 5, 3) := by decide +kernel
theorem dX4_readRain_14 : decode cX4_readRain 14 = .ok (.iconst 0, 1) := by decide +kernel
theorem dX4_readRain_15 : decode cX4_readRain 15 = .ok (.ireturn, 1) := by decide +kernel
theorem dX4_readRain_16 : decode cX4_readRain 16 = .ok (.aload_n 1, 1) := by decide +kernel
theorem dX4_readRain_17 : decode cX4_readRain 17 = .ok (.aload_n 0, 1) := by decide +kernel
theorem dX4_readRain_18 : decode cX4_readRain 18 = .ok (.getfield 51, 3) := by decide +kernel
theorem dX4_readRain_21 : decode cX4_readRain 21 = .ok (.putfield 82, 3) := by decide +kernel
theorem dX4_readRain_24 : decode cX4_readRain 24 = .ok (.aload_n 0, 1) := by decide +kernel
theorem dX4_readRain_25 : decode cX4_readRain 25 = .ok (.invokevirtual 19, 3) := by decide +kernel
theorem dX4_readRain_28 : decode cX4_readRain 28 = .ok (.iconst 1, 1) := by decide +kernel
theorem dX4_readRain_29 : decode cX4_readRain 29 = .ok (.ireturn, 1) := by decide +kernel
set_option maxRecDepth 20000 in
theorem ggX4_readPart_X4_isWord : GoodIn wsX4_readPart wsX4_isWord := goodIn_r _ [6, 7, 8, 9, 10, 11, 12, 13, 14, 15, 16, 17, 18, 19, 20, 21, 22, 23, 24, 25, 26, 27, 28, 29, 30, 31, 32, 33, 34, 35, 36, 37, 38, 39, 40, 41, 42, 43, 44, 45, 46, 47, 48, 49, 50, 51, 52, 53, 54, 55, 56, 57, 58, 59, 60, 89, 90, 91, 92, 93, 94, 95] (by decide +kernel) (by decide +kernel)
set_option maxRecDepth 20000 in
theorem gX4_readPart_X4_isWord : GoodIn wsX4_readPart (wsV RX4 36 RX4 yX4_isWord wsX4_isWord) := goodIn_app (goodIn_of _ (by decide +kernel)) ggX4_readPart_X4_isWord
set_option maxRecDepth 20000 in
theorem ggX4_readPart_X4_nextToken : GoodIn wsX4_readPart wsX4_nextToken := goodIn_r _ [64, 8, 9, 10, 65, 11, 7, 66, 67, 68, 69, 70, 71, 72, 73, 74, 75, 5, 76, 77, 78, 79, 80, 1, 81, 82, 83, 84, 89, 90, 91, 92, 93, 94, 95] (by decide +kernel) (by decide +kernel)
set_option maxRecDepth 20000 in
theorem gX4_readPart_X4_nextToken : GoodIn wsX4_readPart (wsV RX4 19 RX4 yX4_nextToken wsX4_nextToken) := goodIn_app (goodIn_of _ (by decide +kernel)) ggX4_readPart_X4_nextToken
set_option maxRecDepth 20000 in
theorem ggX4_readPart_X4_isNumber : GoodIn wsX4_readPart wsX4_isNumber := goodIn_r _ [88, 7, 1, 89, 90, 91, 92, 93] (by decide +kernel) (by decide +kernel)
set_option maxRecDepth 20000 in
theorem gX4_readPart_X4_isNumber : GoodIn wsX4_readPart (wsV RX4 47 RX4 yX4_isNumber wsX4_isNumber) := goodIn_app (goodIn_of _ (by decide +kernel)) ggX4_readPart_X4_isNumber
theorem dX4_readPart_0 : decode cX4_readPart 0 = .ok (.aload_n 0, 1) := by decide +kernel
theorem dX4_readPart_1 : decode cX4_readPart 1 = .ok (.aload_n 1, 1) := by decide +kernel
theorem dX4_readPart_2 : decode cX4_readPart 2 = .ok (.invokevirtual 36, 3) := by decide +kernel
theorem dX4_readPart_5 : decode cX4_readPart 5 = .ok (.ifCond .ne 5, 3) := by decide +kernel
theorem dX4_readPart_8 : decode cX4_readPart 8 = .ok (.iconst 1, 1) := by decide +kernel
theorem dX4_readPart_9 : decode cX4_readPart 9 = .ok (.ireturn, 1) := by decide +kernel
theorem dX4_readPart_10 : decode cX4_readPart 10 = .ok (.aload_n 0, 1) := by decide +kernel
theorem dX4_readPart_11 : decode cX4_readPart 11 = .ok (.invokevirtual 19, 3) := by decide +kernel
theorem dX4_readPart_14 : decode cX4_readPart 14 = .ok (.aload_n 0, 1) := by decide +kernel
theorem dX4_readPart_15 : decode cX4_readPart 15 = .ok (.iload 4, 2) := by decide +kernel
theorem dX4_readPart_17 : decode cX4_readPart 17 = .ok (.invokevirtual 47, 3) := by decide +kernel
theorem dX4_readPart_20 : decode cX4_readPart 20 = .ok (.ifCond .ne 5, 3) := by decide +kernel
theorem dX4_readPart_23 : decode cX4_readPart 23 = .ok (.iconst 0, 1) := by decide +kernel
theorem dX4_readPart_24 : decode cX4_readPart 24 = .ok (.ireturn, 1) := by decide +kernel
theorem dX4_readPart_25 : decode cX4_readPart 25 = .ok (.aload_n 2, 1) := by decide +kernel
theorem dX4_readPart_26 : decode cX4_readPart 26 = .ok (.iload_n 3, 1) := by decide +kernel
theorem dX4_readPart_27 : decode cX4_readPart 27 = .ok (.aload_n 0, 1) := by decide +kernel
theorem dX4_readPart_28 : decode cX4_readPart 28 = .ok (.getfield 51, 3) := by decide +kernel
theorem dX4_readPart_31 : decode cX4_readPart 31 = .ok (.iastore, 1) := by decide +kernel
theorem dX4_readPart_32 : decode cX4_readPart 32 = .ok (.aload_n 0, 1) := by decide +kernel
theorem dX4_readPart_33 : decode cX4_readPart 33 = .ok (.invokevirtual 19, 3) := by decide +kernel
theorem dX4_readPart_36 : decode cX4_readPart 36 = .ok (.iconst 1, 1) := by decide +kernel
theorem dX4_readPart_37 : decode cX4_readPart 37 = .ok (.ireturn, 1) := by decide +kernel
set_option maxRecDepth 20000 in
theorem ggX4_readSpout_X4_isWord : GoodIn wsX4_readSpout wsX4_isWord := goodIn_r _ [6, 7, 8, 9, 10, 11, 12, 13, 14, 15, 16, 17, 18, 19, 20, 21, 22, 23, 24, 25, 26, 27, 28, 29, 30, 31, 32, 33, 34, 35, 36, 37, 38, 39, 40, 41, 42, 43, 44, 45, 46, 47, 48, 49, 50, 51, 52, 53, 54, 55, 56, 57, 58, 59, 60, 98, 99, 100, 101, 102, 103, 104] (by decide +kernel) (by decide +kernel)
set_option maxRecDepth 20000 in
theorem gX4_readSpout_X4_isWord : GoodIn wsX4_readSpout (wsV RX4 36 RX4 yX4_isWord wsX4_isWord) := goodIn_app (goodIn_of _ (by decide +kernel)) ggX4_readSpout_X4_isWord
set_option maxRecDepth 20000 in
theorem ggX4_readSpout_X4_nextToken : GoodIn wsX4_readSpout wsX4_nextToken := goodIn_r _ [64, 8, 9, 10, 65, 11, 7, 66, 67, 68, 69, 70, 71, 72, 73, 74, 75, 5, 76, 77, 78, 79, 80, 81, 82, 83, 84, 85, 98, 99, 100, 101, 102, 103, 104] (by decide +kernel) (by decide +kernel)
set_option maxRecDepth 20000 in
theorem gX4_readSpout_X4_nextToken : GoodIn wsX4_readSpout (wsV RX4 19 RX4 yX4_nextToken wsX4_nextToken) := goodIn_app (goodIn_of _ (by decide +kernel)) ggX4_readSpout_X4_nextToken
theorem dX4_readSpout_0 : decode cX4_readSpout 0 = .ok (.aload_n 0, 1) := by decide +kernel
theorem dX4_readSpout_1 : decode cX4_readSpout 1 = .ok (.ldc 84, 2) := by decide +kernel
theorem dX4_readSpout_3 : decode cX4_readSpout 3 = .ok (.invokevirtual 36, 3) := by decide +kernel
theorem dX4_readSpout_6 : decode cX4_readSpout 6 = .ok (.ifCond .eq 17, 3) := by decide +kernel
theorem dX4_readSpout_9 : decode cX4_readSpout 9 = .ok (.aload_n 1, 1) := by decide +kernel
theorem dX4_readSpout_10 : decode cX4_readSpout 10 = .ok (.getfield 86, 3) := by decide +kernel
theorem dX4_readSpout_13 : decode cX4_readSpout 13 = .ok (.iload_n 2, 1) := by decide +kernel
theorem dX4_readSpout_14 : decode cX4_readSpout 14 = .ok (.iconst 0, 1) := by decide +kernel
theorem dX4_readSpout_15 : decode cX4_readSpout 15 = .ok (.iastore, 1) := by decide +kernel
theorem dX4_readSpout_16 : decode cX4_readSpout 16 = .ok (.aload_n 0, 1) := by decide +kernel
theorem dX4_readSpout_17 : decode cX4_readSpout 17 = .ok (.invokevirtual 19, 3) := by decide +kernel
theorem dX4_readSpout_20 : decode cX4_readSpout 20 = .ok (.goto 23, 3) := by decide +kernel
theorem dX4_readSpout_23 : decode cX4_readSpout 23 = .ok (.aload_n 0, 1) := by decide +kernel
theorem dX4_readSpout_24 : decode cX4_readSpout 24 = .ok (.ldc 89, 2) := by decide +kernel
theorem dX4_readSpout_26 : decode cX4_readSpout 26 = .ok (.invokevirtual 36, 3) := by decide +kernel
theorem dX4_readSpout_29 : decode cX4_readSpout 29 = .ok (.ifCond .eq 14, 3) := by decide +kernel
theorem dX4_readSpout_32 : decode cX4_readSpout 32 = .ok (.aload_n 1, 1) := by decide +kernel
theorem dX4_readSpout_33 : decode cX4_readSpout 33 = .ok (.getfield 86, 3) := by decide +kernel
theorem dX4_readSpout_36 : decode cX4_readSpout 36 = .ok (.iload_n 2, 1) := by decide +kernel
theorem dX4_readSpout_37 : decode cX4_readSpout 37 = .ok (.iconst 1, 1) := by decide +kernel
theorem dX4_readSpout_38 : decode cX4_readSpout 38 = .ok (.iastore, 1) := by decide +kernel
theorem dX4_readSpout_39 : decode cX4_readSpout 39 = .ok (.aload_n 0, 1) := by decide +kernel
theorem dX4_readSpout_40 : decode cX4_readSpout 40 = .ok (.invokevirtual 19, 3) := by decide +kernel
theorem dX4_readSpout_43 : decode cX4_readSpout 43 = .ok (.iconst 1, 1) := by decide +kernel
theorem dX4_readSpout_44 : decode cX4_readSpout 44 = .ok (.ireturn, 1) := by decide +kernel
set_option maxRecDepth 20000 in
theorem ggX4_kindOfWord_X4_nameOf : GoodIn wsX4_kindOfWord wsX4_nameOf := goodIn_r _ [4] (by decide +kernel) (by decide +kernel)
set_option maxRecDepth 20000 in
theorem gX4_kindOfWord_X4_nameOf : GoodIn wsX4_kindOfWord (va_wsS RX4 93 yX4_nameOf wsX4_nameOf) := goodIn_app (goodIn_of _ (by decide +kernel)) ggX4_kindOfWord_X4_nameOf
set_option maxRecDepth 20000 in
theorem ggX4_kindOfWord_X4_isWord : GoodIn wsX4_kindOfWord wsX4_isWord := goodIn_r _ [8, 9, 10, 11, 12, 13, 14, 15, 16, 17, 18, 19, 20, 21, 22, 23, 24, 25, 26, 27, 28, 29, 30, 31, 32, 33, 34, 35, 36, 37, 38, 39, 40, 41, 42, 43, 44, 45, 46, 47, 48, 49, 50, 51, 52, 53, 54, 55, 56, 57, 58, 59, 60, 61, 62, 63, 64, 65, 66, 67, 68, 69] (by decide +kernel) (by decide +kernel)
set_option maxRecDepth 20000 in
theorem gX4_kindOfWord_X4_isWord : GoodIn wsX4_kindOfWord (wsV RX4 36 RX4 yX4_isWord wsX4_isWord) := goodIn_app (goodIn_of _ (by decide +kernel)) ggX4_kindOfWord_X4_isWord
theorem dX4_kindOfWord_0 : decode cX4_kindOfWord 0 = .ok (.iconst 0, 1) := by decide +kernel
theorem dX4_kindOfWord_1 : decode cX4_kindOfWord 1 = .ok (.istore_n 1, 1) := by decide +kernel
theorem dX4_kindOfWord_2 : decode cX4_kindOfWord 2 = .ok (.iload_n 1, 1) := by decide +kernel
theorem dX4_kindOfWord_3 : decode cX4_kindOfWord 3 = .ok (.bipush 7, 2) := by decide +kernel
theorem dX4_kindOfWord_5 : decode cX4_kindOfWord 5 = .ok (.if_icmp .ge 22, 3) := by decide +kernel
theorem dX4_kindOfWord_8 : decode cX4_kindOfWord 8 = .ok (.aload_n 0, 1) := by decide +kernel
theorem dX4_kindOfWord_9 : decode cX4_kindOfWord 9 = .ok (.iload_n 1, 1) := by decide +kernel
theorem dX4_kindOfWord_10 : decode cX4_kindOfWord 10 = .ok (.invokestatic 93, 3) := by decide +kernel
theorem dX4_kindOfWord_13 : decode cX4_kindOfWord 13 = .ok (.invokevirtual 36, 3) := by decide +kernel
theorem dX4_kindOfWord_16 : decode cX4_kindOfWord 16 = .ok (.ifCond .eq 5, 3) := by decide +kernel
theorem dX4_kindOfWord_19 : decode cX4_kindOfWord 19 = .ok (.iload_n 1, 1) := by decide +kernel
theorem dX4_kindOfWord_20 : decode cX4_kindOfWord 20 = .ok (.ireturn, 1) := by decide +kernel
theorem dX4_kindOfWord_21 : decode cX4_kindOfWord 21 = .ok (.iinc 1 1, 3) := by decide +kernel
theorem dX4_kindOfWord_24 : decode cX4_kindOfWord 24 = .ok (.goto (-22), 3) := by decide +kernel
theorem dX4_kindOfWord_27 : decode cX4_kindOfWord 27 = .ok (.iconst (-1), 1) := by decide +kernel
theorem dX4_kindOfWord_28 : decode cX4_kindOfWord 28 = .ok (.ireturn, 1) := by decide +kernel
theorem dX4_nameOf_0 : decode cX4_nameOf 0 = .ok (.iload_n 0, 1) := by decide +kernel
theorem dX4_nameOf_1 : decode cX4_nameOf 1 = .ok (.tableswitch 57 1 6 #[39, 42, 45, 48, 51, 54], 39) := by decide +kernel
theorem dX4_nameOf_40 : decode cX4_nameOf 40 = .ok (.ldc 97, 2) := by decide +kernel
theorem dX4_nameOf_42 : decode cX4_nameOf 42 = .ok (.areturn, 1) := by decide +kernel
theorem dX4_nameOf_43 : decode cX4_nameOf 43 = .ok (.ldc 99, 2) := by decide +kernel
theorem dX4_nameOf_45 : decode cX4_nameOf 45 = .ok (.areturn, 1) := by decide +kernel
theorem dX4_nameOf_46 : decode cX4_nameOf 46 = .ok (.ldc 101, 2) := by decide +kernel
theorem dX4_nameOf_48 : decode cX4_nameOf 48 = .ok (.areturn, 1) := by decide +kernel
theorem dX4_nameOf_49 : decode cX4_nameOf 49 = .ok (.ldc 103, 2) := by decide +kernel
theorem dX4_nameOf_51 : decode cX4_nameOf 51 = .ok (.areturn, 1) := by decide +kernel
theorem dX4_nameOf_52 : decode cX4_nameOf 52 = .ok (.ldc 105, 2) := by decide +kernel
theorem dX4_nameOf_54 : decode cX4_nameOf 54 = .ok (.areturn, 1) := by decide +kernel
theorem dX4_nameOf_55 : decode cX4_nameOf 55 = .ok (.ldc 107, 2) := by decide +kernel
theorem dX4_nameOf_57 : decode cX4_nameOf 57 = .ok (.areturn, 1) := by decide +kernel
theorem dX4_nameOf_58 : decode cX4_nameOf 58 = .ok (.ldc 109, 2) := by decide +kernel
theorem dX4_nameOf_60 : decode cX4_nameOf 60 = .ok (.areturn, 1) := by decide +kernel
theorem dX4_isNumber_0 : decode cX4_isNumber 0 = .ok (.aload_n 0, 1) := by decide +kernel
theorem dX4_isNumber_1 : decode cX4_isNumber 1 = .ok (.getfield 26, 3) := by decide +kernel
theorem dX4_isNumber_4 : decode cX4_isNumber 4 = .ok (.iconst 2, 1) := by decide +kernel
theorem dX4_isNumber_5 : decode cX4_isNumber 5 = .ok (.if_icmp .ne 15, 3) := by decide +kernel
theorem dX4_isNumber_8 : decode cX4_isNumber 8 = .ok (.aload_n 0, 1) := by decide +kernel
theorem dX4_isNumber_9 : decode cX4_isNumber 9 = .ok (.getfield 51, 3) := by decide +kernel
theorem dX4_isNumber_12 : decode cX4_isNumber 12 = .ok (.iload_n 1, 1) := by decide +kernel
theorem dX4_isNumber_13 : decode cX4_isNumber 13 = .ok (.if_icmp .gt 7, 3) := by decide +kernel
theorem dX4_isNumber_16 : decode cX4_isNumber 16 = .ok (.iconst 1, 1) := by decide +kernel
theorem dX4_isNumber_17 : decode cX4_isNumber 17 = .ok (.goto 4, 3) := by decide +kernel
theorem dX4_isNumber_20 : decode cX4_isNumber 20 = .ok (.iconst 0, 1) := by decide +kernel
theorem dX4_isNumber_21 : decode cX4_isNumber 21 = .ok (.ireturn, 1) := by decide +kernel
set_option maxRecDepth 20000 in
theorem ggX4_isWord_J0_length_8abf5 : GoodIn wsX4_isWord wsJ0_length_8abf5 := goodIn_r _ [10, 11, 12, 13, 14, 9, 15, 16, 17] (by decide +kernel) (by decide +kernel)
set_option maxRecDepth 20000 in
theorem gX4_isWord_J0_length_8abf5 : GoodIn wsX4_isWord (wsV RX4 111 RJ0 yJ0_length_8abf5 wsJ0_length_8abf5) := goodIn_app (goodIn_of _ (by decide +kernel)) ggX4_isWord_J0_length_8abf5
set_option maxRecDepth 20000 in
theorem ggX4_isWord_J0_charAt_5068e : GoodIn wsX4_isWord wsJ0_charAt_5068e := goodIn_r _ [21, 11, 22, 23, 24, 9, 25, 16, 17, 26, 27, 28, 29, 30, 31, 32, 33, 34, 35, 36, 37, 38, 39, 40, 41, 42, 43, 44, 45, 46, 47, 48, 49, 50, 51, 52, 53, 54] (by decide +kernel) (by decide +kernel)
set_option maxRecDepth 20000 in
theorem gX4_isWord_J0_charAt_5068e : GoodIn wsX4_isWord (wsV RX4 119 RJ0 yJ0_charAt_5068e wsJ0_charAt_5068e) := goodIn_app (goodIn_of _ (by decide +kernel)) ggX4_isWord_J0_charAt_5068e
theorem dX4_isWord_0 : decode cX4_isWord 0 = .ok (.aload_n 0, 1) := by decide +kernel
theorem dX4_isWord_1 : decode cX4_isWord 1 = .ok (.getfield 26, 3) := by decide +kernel
theorem dX4_isWord_4 : decode cX4_isWord 4 = .ok (.iconst 1, 1) := by decide +kernel
theorem dX4_isWord_5 : decode cX4_isWord 5 = .ok (.if_icmp .ne 19, 3) := by decide +kernel
theorem dX4_isWord_8 : decode cX4_isWord 8 = .ok (.aload_n 0, 1) := by decide +kernel
theorem dX4_isWord_9 : decode cX4_isWord 9 = .ok (.getfield 15, 3) := by decide +kernel
theorem dX4_isWord_12 : decode cX4_isWord 12 = .ok (.aload_n 0, 1) := by decide +kernel
theorem dX4_isWord_13 : decode cX4_isWord 13 = .ok (.getfield 31, 3) := by decide +kernel
theorem dX4_isWord_16 : decode cX4_isWord 16 = .ok (.isub, 1) := by decide +kernel
theorem dX4_isWord_17 : decode cX4_isWord 17 = .ok (.aload_n 1, 1) := by decide +kernel
theorem dX4_isWord_18 : decode cX4_isWord 18 = .ok (.invokevirtual 111, 3) := by decide +kernel
theorem dX4_isWord_21 : decode cX4_isWord 21 = .ok (.if_icmp .eq 5, 3) := by decide +kernel
theorem dX4_isWord_24 : decode cX4_isWord 24 = .ok (.iconst 0, 1) := by decide +kernel
theorem dX4_isWord_25 : decode cX4_isWord 25 = .ok (.ireturn, 1) := by decide +kernel
theorem dX4_isWord_26 : decode cX4_isWord 26 = .ok (.iconst 0, 1) := by decide +kernel
theorem dX4_isWord_27 : decode cX4_isWord 27 = .ok (.istore_n 2, 1) := by decide +kernel
theorem dX4_isWord_28 : decode cX4_isWord 28 = .ok (.iload_n 2, 1) := by decide +kernel
theorem dX4_isWord_29 : decode cX4_isWord 29 = .ok (.aload_n 1, 1) := by decide +kernel
theorem dX4_isWord_30 : decode cX4_isWord 30 = .ok (.invokevirtual 111, 3) := by decide +kernel
theorem dX4_isWord_33 : decode cX4_isWord 33 = .ok (.if_icmp .ge 33, 3) := by decide +kernel
theorem dX4_isWord_36 : decode cX4_isWord 36 = .ok (.aload_n 0, 1) := by decide +kernel
theorem dX4_isWord_37 : decode cX4_isWord 37 = .ok (.getfield 9, 3) := by decide +kernel
theorem dX4_isWord_40 : decode cX4_isWord 40 = .ok (.getfield 116, 3) := by decide +kernel
theorem dX4_isWord_43 : decode cX4_isWord 43 = .ok (.aload_n 0, 1) := by decide +kernel
theorem dX4_isWord_44 : decode cX4_isWord 44 = .ok (.getfield 31, 3) := by decide +kernel
theorem dX4_isWord_47 : decode cX4_isWord 47 = .ok (.iload_n 2, 1) := by decide +kernel
theorem dX4_isWord_48 : decode cX4_isWord 48 = .ok (.iadd, 1) := by decide +kernel
theorem dX4_isWord_49 : decode cX4_isWord 49 = .ok (.iaload, 1) := by decide +kernel
theorem dX4_isWord_50 : decode cX4_isWord 50 = .ok (.aload_n 1, 1) := by decide +kernel
theorem dX4_isWord_51 : decode cX4_isWord 51 = .ok (.iload_n 2, 1) := by decide +kernel
theorem dX4_isWord_52 : decode cX4_isWord 52 = .ok (.invokevirtual 119, 3) := by decide +kernel
theorem dX4_isWord_55 : decode cX4_isWord 55 = .ok (.if_icmp .eq 5, 3) := by decide +kernel
theorem dX4_isWord_58 : decode cX4_isWord 58 = .ok (.iconst 0, 1) := by decide +kernel
theorem dX4_isWord_59 : decode cX4_isWord 59 = .ok (.ireturn, 1) := by decide +kernel
theorem dX4_isWord_60 : decode cX4_isWord 60 = .ok (.iinc 2 1, 3) := by decide +kernel
theorem dX4_isWord_63 : decode cX4_isWord 63 = .ok (.goto (-35), 3) := by decide +kernel
theorem dX4_isWord_66 : decode cX4_isWord 66 = .ok (.iconst 1, 1) := by decide +kernel
theorem dX4_isWord_67 : decode cX4_isWord 67 = .ok (.ireturn, 1) := by decide +kernel
set_option maxRecDepth 20000 in
theorem ggX4_nextToken_X3_isBetween : GoodIn wsX4_nextToken wsX3_isBetween := goodIn_r _ [11, 12, 13, 33, 34] (by decide +kernel) (by decide +kernel)
set_option maxRecDepth 20000 in
theorem gX4_nextToken_X3_isBetween : GoodIn wsX4_nextToken (wsV RX4 126 RX3 yX3_isBetween wsX3_isBetween) := goodIn_app (goodIn_of _ (by decide +kernel)) ggX4_nextToken_X3_isBetween
set_option maxRecDepth 20000 in
theorem ggX4_nextToken_X4_readWord : GoodIn wsX4_nextToken wsX4_readWord := goodIn_r _ [18, 6, 1, 3, 4, 7, 8, 9, 10, 11, 12, 13, 28, 29, 30, 31, 32, 33, 34] (by decide +kernel) (by decide +kernel)
set_option maxRecDepth 20000 in
theorem gX4_nextToken_X4_readWord : GoodIn wsX4_nextToken (wsV RX4 130 RX4 yX4_readWord wsX4_readWord) := goodIn_app (goodIn_of _ (by decide +kernel)) ggX4_nextToken_X4_readWord
set_option maxRecDepth 20000 in
theorem ggX4_nextToken_X4_readNumber : GoodIn wsX4_nextToken wsX4_readNumber := goodIn_r _ [22, 6, 23, 1, 3, 4, 5, 24, 25, 26, 27, 7, 8, 9, 10, 11, 12, 13, 28, 29, 30, 31, 32, 33, 34] (by decide +kernel) (by decide +kernel)
set_option maxRecDepth 20000 in
theorem gX4_nextToken_X4_readNumber : GoodIn wsX4_nextToken (wsV RX4 133 RX4 yX4_readNumber wsX4_readNumber) := goodIn_app (goodIn_of _ (by decide +kernel)) ggX4_nextToken_X4_readNumber
theorem dX4_nextToken_0 : decode cX4_nextToken 0 = .ok (.aload_n 0, 1) := by decide +kernel
theorem dX4_nextToken_1 : decode cX4_nextToken 1 = .ok (.aload_n 0, 1) := by decide +kernel
theorem dX4_nextToken_2 : decode cX4_nextToken 2 = .ok (.getfield 15, 3) := by decide +kernel
theorem dX4_nextToken_5 : decode cX4_nextToken 5 = .ok (.putfield 31, 3) := by decide +kernel
theorem dX4_nextToken_8 : decode cX4_nextToken 8 = .ok (.aload_n 0, 1) := by decide +kernel
theorem dX4_nextToken_9 : decode cX4_nextToken 9 = .ok (.getfield 31, 3) := by decide +kernel
theorem dX4_nextToken_12 : decode cX4_nextToken 12 = .ok (.aload_n 0, 1) := by decide +kernel
theorem dX4_nextToken_13 : decode cX4_nextToken 13 = .ok (.getfield 9, 3) := by decide +kernel
theorem dX4_nextToken_16 : decode cX4_nextToken 16 = .ok (.getfield 123, 3) := by decide +kernel
theorem dX4_nextToken_19 : decode cX4_nextToken 19 = .ok (.if_icmp .ge 33, 3) := by decide +kernel
theorem dX4_nextToken_22 : decode cX4_nextToken 22 = .ok (.aload_n 0, 1) := by decide +kernel

theorem dX6_best_18 : decode cX6_best 18 = .ok (.iconst 0, 1) := by decide +kernel
theorem dX6_best_19 : decode cX6_best 19 = .ok (.istore 4, 2) := by decide +kernel
theorem dX6_best_21 : decode cX6_best 21 = .ok (.iload 4, 2) := by decide +kernel
theorem dX6_best_23 : decode cX6_best 23 = .ok (.bipush 11, 2) := by decide +kernel
theorem dX6_best_25 : decode cX6_best 25 = .ok (.if_icmp .ge 43, 3) := by decide +kernel
theorem dX6_best_28 : decode cX6_best 28 = .ok (.aload_n 0, 1) := by decide +kernel
theorem dX6_best_29 : decode cX6_best 29 = .ok (.iconst 1, 1) := by decide +kernel
theorem dX6_best_30 : decode cX6_best 30 = .ok (.iload 4, 2) := by decide +kernel
theorem dX6_best_32 : decode cX6_best 32 = .ok (.ishl, 1) := by decide +kernel
theorem dX6_best_33 : decode cX6_best 33 = .ok (.iload_n 1, 1) := by decide +kernel
theorem dX6_best_34 : decode cX6_best 34 = .ok (.invokevirtual 194, 3) := by decide +kernel
theorem dX6_best_37 : decode cX6_best 37 = .ok (.invokestatic 191, 3) := by decide +kernel
theorem dX6_best_40 : decode cX6_best 40 = .ok (.istore 5, 2) := by decide +kernel
theorem dX6_best_42 : decode cX6_best 42 = .ok (.iload 5, 2) := by decide +kernel
theorem dX6_best_44 : decode cX6_best 44 = .ok (.iload_n 3, 1) := by decide +kernel
theorem dX6_best_45 : decode cX6_best 45 = .ok (.if_icmp .ge 8, 3) := by decide +kernel
theorem dX6_best_48 : decode cX6_best 48 = .ok (.iload 4, 2) := by decide +kernel
theorem dX6_best_50 : decode cX6_best 50 = .ok (.goto 4, 3) := by decide +kernel
theorem dX6_best_53 : decode cX6_best 53 = .ok (.iload_n 2, 1) := by decide +kernel
theorem dX6_best_54 : decode cX6_best 54 = .ok (.istore_n 2, 1) := by decide +kernel
theorem dX6_best_55 : decode cX6_best 55 = .ok (.iload_n 3, 1) := by decide +kernel
theorem dX6_best_56 : decode cX6_best 56 = .ok (.iload 5, 2) := by decide +kernel
theorem dX6_best_58 : decode cX6_best 58 = .ok (.invokestatic 120, 3) := by decide +kernel
theorem dX6_best_61 : decode cX6_best 61 = .ok (.istore_n 3, 1) := by decide +kernel
theorem dX6_best_62 : decode cX6_best 62 = .ok (.iinc 4 1, 3) := by decide +kernel
theorem dX6_best_65 : decode cX6_best 65 = .ok (.goto (-44), 3) := by decide +kernel
theorem dX6_best_68 : decode cX6_best 68 = .ok (.iload_n 2, 1) := by decide +kernel
theorem dX6_best_69 : decode cX6_best 69 = .ok (.ireturn, 1) := by decide +kernel
theorem dX6_love_0 : decode cX6_love 0 = .ok (.iload_n 1, 1) := by decide +kernel
theorem dX6_love_1 : decode cX6_love 1 = .ok (.invokestatic 87, 3) := by decide +kernel
theorem dX6_love_4 : decode cX6_love 4 = .ok (.ifCond .eq 10, 3) := by decide +kernel
theorem dX6_love_7 : decode cX6_love 7 = .ok (.iload_n 2, 1) := by decide +kernel
theorem dX6_love_8 : decode cX6_love 8 = .ok (.invokestatic 176, 3) := by decide +kernel
theorem dX6_love_11 : decode cX6_love 11 = .ok (.ifCond .ne 9, 3) := by decide +kernel
theorem dX6_love_14 : decode cX6_love 14 = .ok (.aload_n 0, 1) := by decide +kernel
theorem dX6_love_15 : decode cX6_love 15 = .ok (.iconst 0, 1) := by decide +kernel
theorem dX6_love_16 : decode cX6_love 16 = .ok (.invokevirtual 96, 3) := by decide +kernel
theorem dX6_love_19 : decode cX6_love 19 = .ok (.ireturn, 1) := by decide +kernel
theorem dX6_love_20 : decode cX6_love 20 = .ok (.iconst 0, 1) := by decide +kernel
theorem dX6_love_21 : decode cX6_love 21 = .ok (.istore_n 3, 1) := by decide +kernel
theorem dX6_love_22 : decode cX6_love 22 = .ok (.iconst (-1), 1) := by decide +kernel
theorem dX6_love_23 : decode cX6_love 23 = .ok (.istore 4, 2) := by decide +kernel
theorem dX6_love_25 : decode cX6_love 25 = .ok (.iconst 0, 1) := by decide +kernel
theorem dX6_love_26 : decode cX6_love 26 = .ok (.istore 5, 2) := by decide +kernel
theorem dX6_love_28 : decode cX6_love 28 = .ok (.iload 5, 2) := by decide +kernel
theorem dX6_love_30 : decode cX6_love 30 = .ok (.bipush 11, 2) := by decide +kernel
theorem dX6_love_32 : decode cX6_love 32 = .ok (.if_icmp .ge 59, 3) := by decide +kernel
theorem dX6_love_35 : decode cX6_love 35 = .ok (.aload_n 0, 1) := by decide +kernel
theorem dX6_love_36 : decode cX6_love 36 = .ok (.invokevirtual 160, 3) := by decide +kernel
theorem dX6_love_39 : decode cX6_love 39 = .ok (.aload_n 0, 1) := by decide +kernel
theorem dX6_love_40 : decode cX6_love 40 = .ok (.iload 5, 2) := by decide +kernel
theorem dX6_love_42 : decode cX6_love 42 = .ok (.invokevirtual 186, 3) := by decide +kernel
theorem dX6_love_45 : decode cX6_love 45 = .ok (.aload_n 0, 1) := by decide +kernel
theorem dX6_love_46 : decode cX6_love 46 = .ok (.iload_n 2, 1) := by decide +kernel
theorem dX6_love_47 : decode cX6_love 47 = .ok (.invokevirtual 144, 3) := by decide +kernel
theorem dX6_love_50 : decode cX6_love 50 = .ok (.aload_n 0, 1) := by decide +kernel
theorem dX6_love_51 : decode cX6_love 51 = .ok (.iload_n 1, 1) := by decide +kernel
theorem dX6_love_52 : decode cX6_love 52 = .ok (.iconst 1, 1) := by decide +kernel
theorem dX6_love_53 : decode cX6_love 53 = .ok (.invokevirtual 64, 3) := by decide +kernel
theorem dX6_love_56 : decode cX6_love 56 = .ok (.istore 6, 2) := by decide +kernel
theorem dX6_love_58 : decode cX6_love 58 = .ok (.aload_n 0, 1) := by decide +kernel
theorem dX6_love_59 : decode cX6_love 59 = .ok (.invokevirtual 163, 3) := by decide +kernel
theorem dX6_love_62 : decode cX6_love 62 = .ok (.iload 6, 2) := by decide +kernel
theorem dX6_love_64 : decode cX6_love 64 = .ok (.iload 4, 2) := by decide +kernel
theorem dX6_love_66 : decode cX6_love 66 = .ok (.if_icmp .le 8, 3) := by decide +kernel
theorem dX6_love_69 : decode cX6_love 69 = .ok (.iload 5, 2) := by decide +kernel
theorem dX6_love_71 : decode cX6_love 71 = .ok (.goto 4, 3) := by decide +kernel
theorem dX6_love_74 : decode cX6_love 74 = .ok (.iload_n 3, 1) := by decide +kernel
theorem dX6_love_75 : decode cX6_love 75 = .ok (.istore_n 3, 1) := by decide +kernel
theorem dX6_love_76 : decode cX6_love 76 = .ok (.iload 4, 2) := by decide +kernel
theorem dX6_love_78 : decode cX6_love 78 = .ok (.iload 6, 2) := by decide +kernel
theorem dX6_love_80 : decode cX6_love 80 = .ok (.invokestatic 68, 3) := by decide +kernel
theorem dX6_love_83 : decode cX6_love 83 = .ok (.istore 4, 2) := by decide +kernel
theorem dX6_love_85 : decode cX6_love 85 = .ok (.iinc 5 1, 3) := by decide +kernel
theorem dX6_love_88 : decode cX6_love 88 = .ok (.goto (-60), 3) := by decide +kernel
theorem dX6_love_91 : decode cX6_love 91 = .ok (.iload_n 3, 1) := by decide +kernel
theorem dX6_love_92 : decode cX6_love 92 = .ok (.ireturn, 1) := by decide +kernel
theorem dX6_burst_0 : decode cX6_burst 0 = .ok (.iload_n 1, 1) := by decide +kernel
theorem dX6_burst_1 : decode cX6_burst 1 = .ok (.invokestatic 87, 3) := by decide +kernel
theorem dX6_burst_4 : decode cX6_burst 4 = .ok (.ifCond .eq 22, 3) := by decide +kernel
theorem dX6_burst_7 : decode cX6_burst 7 = .ok (.iload_n 2, 1) := by decide +kernel
theorem dX6_burst_8 : decode cX6_burst 8 = .ok (.i2l, 1) := by decide +kernel
theorem dX6_burst_9 : decode cX6_burst 9 = .ok (.lconst 0, 1) := by decide +kernel
theorem dX6_burst_10 : decode cX6_burst 10 = .ok (.ldc2_w 81, 3) := by decide +kernel
theorem dX6_burst_13 : decode cX6_burst 13 = .ok (.invokestatic 54, 3) := by decide +kernel
theorem dX6_burst_16 : decode cX6_burst 16 = .ok (.ifCond .eq 10, 3) := by decide +kernel
theorem dX6_burst_19 : decode cX6_burst 19 = .ok (.iload_n 3, 1) := by decide +kernel
theorem dX6_burst_20 : decode cX6_burst 20 = .ok (.invokestatic 176, 3) := by decide +kernel
theorem dX6_burst_23 : decode cX6_burst 23 = .ok (.ifCond .ne 9, 3) := by decide +kernel
theorem dX6_burst_26 : decode cX6_burst 26 = .ok (.aload_n 0, 1) := by decide +kernel
theorem dX6_burst_27 : decode cX6_burst 27 = .ok (.iconst 0, 1) := by decide +kernel
theorem dX6_burst_28 : decode cX6_burst 28 = .ok (.invokevirtual 96, 3) := by decide +kernel
theorem dX6_burst_31 : decode cX6_burst 31 = .ok (.ireturn, 1) := by decide +kernel
theorem dX6_burst_32 : decode cX6_burst 32 = .ok (.aload_n 0, 1) := by decide +kernel
theorem dX6_burst_33 : decode cX6_burst 33 = .ok (.invokevirtual 160, 3) := by decide +kernel
theorem dX6_burst_36 : decode cX6_burst 36 = .ok (.aload_n 0, 1) := by decide +kernel
theorem dX6_burst_37 : decode cX6_burst 37 = .ok (.iload_n 3, 1) := by decide +kernel
theorem dX6_burst_38 : decode cX6_burst 38 = .ok (.invokevirtual 166, 3) := by decide +kernel
theorem dX6_burst_41 : decode cX6_burst 41 = .ok (.istore 4, 2) := by decide +kernel
theorem dX6_burst_43 : decode cX6_burst 43 = .ok (.aload_n 0, 1) := by decide +kernel
theorem dX6_burst_44 : decode cX6_burst 44 = .ok (.invokevirtual 160, 3) := by decide +kernel
theorem dX6_burst_47 : decode cX6_burst 47 = .ok (.aload_n 0, 1) := by decide +kernel
theorem dX6_burst_48 : decode cX6_burst 48 = .ok (.iload_n 1, 1) := by decide +kernel
theorem dX6_burst_49 : decode cX6_burst 49 = .ok (.iload_n 2, 1) := by decide +kernel
theorem dX6_burst_50 : decode cX6_burst 50 = .ok (.invokevirtual 127, 3) := by decide +kernel
theorem dX6_burst_53 : decode cX6_burst 53 = .ok (.aload_n 0, 1) := by decide +kernel
theorem dX6_burst_54 : decode cX6_burst 54 = .ok (.iload_n 3, 1) := by decide +kernel
theorem dX6_burst_55 : decode cX6_burst 55 = .ok (.invokevirtual 166, 3) := by decide +kernel
theorem dX6_burst_58 : decode cX6_burst 58 = .ok (.iload 4, 2) := by decide +kernel
theorem dX6_burst_60 : decode cX6_burst 60 = .ok (.isub, 1) := by decide +kernel
theorem dX6_burst_61 : decode cX6_burst 61 = .ok (.ireturn, 1) := by decide +kernel
theorem dX6_isSo_0 : decode cX6_isSo 0 = .ok (.iconst 1, 1) := by decide +kernel
theorem dX6_isSo_1 : decode cX6_isSo 1 = .ok (.istore_n 3, 1) := by decide +kernel
theorem dX6_isSo_2 : decode cX6_isSo 2 = .ok (.iconst 0, 1) := by decide +kernel
theorem dX6_isSo_3 : decode cX6_isSo 3 = .ok (.istore 4, 2) := by decide +kernel
theorem dX6_isSo_5 : decode cX6_isSo 5 = .ok (.iload 4, 2) := by decide +kernel
theorem dX6_isSo_7 : decode cX6_isSo 7 = .ok (.aload_n 0, 1) := by decide +kernel
theorem dX6_isSo_8 : decode cX6_isSo 8 = .ok (.getfield 34, 3) := by decide +kernel
theorem dX6_isSo_11 : decode cX6_isSo 11 = .ok (.iload_n 1, 1) := by decide +kernel
theorem dX6_isSo_12 : decode cX6_isSo 12 = .ok (.iaload, 1) := by decide +kernel
theorem dX6_isSo_13 : decode cX6_isSo 13 = .ok (.if_icmp .ge 54, 3) := by decide +kernel
theorem dX6_isSo_16 : decode cX6_isSo 16 = .ok (.aload_n 0, 1) := by decide +kernel
theorem dX6_isSo_17 : decode cX6_isSo 17 = .ok (.getfield 37, 3) := by decide +kernel
theorem dX6_isSo_20 : decode cX6_isSo 20 = .ok (.bipush 40, 2) := by decide +kernel
theorem dX6_isSo_22 : decode cX6_isSo 22 = .ok (.iload_n 1, 1) := by decide +kernel
theorem dX6_isSo_23 : decode cX6_isSo 23 = .ok (.imul, 1) := by decide +kernel
theorem dX6_isSo_24 : decode cX6_isSo 24 = .ok (.iload 4, 2) := by decide +kernel
theorem dX6_isSo_26 : decode cX6_isSo 26 = .ok (.iadd, 1) := by decide +kernel
theorem dX6_isSo_27 : decode cX6_isSo 27 = .ok (.iaload, 1) := by decide +kernel
theorem dX6_isSo_28 : decode cX6_isSo 28 = .ok (.istore 5, 2) := by decide +kernel
theorem dX6_isSo_30 : decode cX6_isSo 30 = .ok (.iload_n 3, 1) := by decide +kernel
theorem dX6_isSo_31 : decode cX6_isSo 31 = .ok (.ifCond .eq 24, 3) := by decide +kernel
theorem dX6_isSo_34 : decode cX6_isSo 34 = .ok (.iload 5, 2) := by decide +kernel
theorem dX6_isSo_36 : decode cX6_isSo 36 = .ok (.iconst (-1), 1) := by decide +kernel
theorem dX6_isSo_37 : decode cX6_isSo 37 = .ok (.if_icmp .eq 14, 3) := by decide +kernel
theorem dX6_isSo_40 : decode cX6_isSo 40 = .ok (.iload 5, 2) := by decide +kernel
theorem dX6_isSo_42 : decode cX6_isSo 42 = .ok (.aload_n 0, 1) := by decide +kernel
theorem dX6_isSo_43 : decode cX6_isSo 43 = .ok (.iload_n 2, 1) := by decide +kernel
theorem dX6_isSo_44 : decode cX6_isSo 44 = .ok (.iconst 1, 1) := by decide +kernel
theorem dX6_isSo_45 : decode cX6_isSo 45 = .ok (.invokevirtual 64, 3) := by decide +kernel
theorem dX6_isSo_48 : decode cX6_isSo 48 = .ok (.if_icmp .ne 7, 3) := by decide +kernel
theorem dX6_isSo_51 : decode cX6_isSo 51 = .ok (.iconst 1, 1) := by decide +kernel
theorem dX6_isSo_52 : decode cX6_isSo 52 = .ok (.goto 4, 3) := by decide +kernel
theorem dX6_isSo_55 : decode cX6_isSo 55 = .ok (.iconst 0, 1) := by decide +kernel
theorem dX6_isSo_56 : decode cX6_isSo 56 = .ok (.istore_n 3, 1) := by decide +kernel
theorem dX6_isSo_57 : decode cX6_isSo 57 = .ok (.aload_n 0, 1) := by decide +kernel
theorem dX6_isSo_58 : decode cX6_isSo 58 = .ok (.invokevirtual 138, 3) := by decide +kernel
theorem dX6_isSo_61 : decode cX6_isSo 61 = .ok (.iinc 4 1, 3) := by decide +kernel
theorem dX6_isSo_64 : decode cX6_isSo 64 = .ok (.goto (-59), 3) := by decide +kernel
theorem dX6_isSo_67 : decode cX6_isSo 67 = .ok (.iload_n 3, 1) := by decide +kernel
theorem dX6_isSo_68 : decode cX6_isSo 68 = .ok (.ireturn, 1) := by decide +kernel
theorem dX6_lacksHouse_0 : decode cX6_lacksHouse 0 = .ok (.aload_n 0, 1) := by decide +kernel
theorem dX6_lacksHouse_1 : decode cX6_lacksHouse 1 = .ok (.iload_n 1, 1) := by decide +kernel
theorem dX6_lacksHouse_2 : decode cX6_lacksHouse 2 = .ok (.invokevirtual 197, 3) := by decide +kernel
theorem dX6_lacksHouse_5 : decode cX6_lacksHouse 5 = .ok (.istore_n 3, 1) := by decide +kernel
theorem dX6_lacksHouse_6 : decode cX6_lacksHouse 6 = .ok (.iload_n 3, 1) := by decide +kernel
theorem dX6_lacksHouse_7 : decode cX6_lacksHouse 7 = .ok (.ifCond .lt 5, 3) := by decide +kernel
theorem dX6_lacksHouse_10 : decode cX6_lacksHouse 10 = .ok (.iload_n 3, 1) := by decide +kernel
theorem dX6_lacksHouse_11 : decode cX6_lacksHouse 11 = .ok (.ireturn, 1) := by decide +kernel
theorem dX6_lacksHouse_12 : decode cX6_lacksHouse 12 = .ok (.iload_n 2, 1) := by decide +kernel
theorem dX6_lacksHouse_13 : decode cX6_lacksHouse 13 = .ok (.invokestatic 87, 3) := by decide +kernel
theorem dX6_lacksHouse_16 : decode cX6_lacksHouse 16 = .ok (.ifCond .eq 7, 3) := by decide +kernel
theorem dX6_lacksHouse_19 : decode cX6_lacksHouse 19 = .ok (.iconst (-1), 1) := by decide +kernel
theorem dX6_lacksHouse_20 : decode cX6_lacksHouse 20 = .ok (.goto 4, 3) := by decide +kernel
theorem dX6_lacksHouse_23 : decode cX6_lacksHouse 23 = .ok (.iconst 0, 1) := by decide +kernel
theorem dX6_lacksHouse_24 : decode cX6_lacksHouse 24 = .ok (.ireturn, 1) := by decide +kernel
theorem dX6_turned_0 : decode cX6_turned 0 = .ok (.aload_n 0, 1) := by decide +kernel
theorem dX6_turned_1 : decode cX6_turned 1 = .ok (.iload_n 1, 1) := by decide +kernel
theorem dX6_turned_2 : decode cX6_turned 2 = .ok (.iload_n 2, 1) := by decide +kernel
theorem dX6_turned_3 : decode cX6_turned 3 = .ok (.invokevirtual 200, 3) := by decide +kernel
theorem dX6_turned_6 : decode cX6_turned 6 = .ok (.istore_n 3, 1) := by decide +kernel
theorem dX6_turned_7 : decode cX6_turned 7 = .ok (.iload_n 3, 1) := by decide +kernel
theorem dX6_turned_8 : decode cX6_turned 8 = .ok (.ifCond .lt 9, 3) := by decide +kernel
theorem dX6_turned_11 : decode cX6_turned 11 = .ok (.aload_n 0, 1) := by decide +kernel
theorem dX6_turned_12 : decode cX6_turned 12 = .ok (.iload_n 3, 1) := by decide +kernel
theorem dX6_turned_13 : decode cX6_turned 13 = .ok (.invokevirtual 96, 3) := by decide +kernel
theorem dX6_turned_16 : decode cX6_turned 16 = .ok (.ireturn, 1) := by decide +kernel
theorem dX6_turned_17 : decode cX6_turned 17 = .ok (.iconst 0, 1) := by decide +kernel
theorem dX6_turned_18 : decode cX6_turned 18 = .ok (.istore 4, 2) := by decide +kernel
theorem dX6_turned_20 : decode cX6_turned 20 = .ok (.iconst 0, 1) := by decide +kernel
theorem dX6_turned_21 : decode cX6_turned 21 = .ok (.istore 5, 2) := by decide +kernel
theorem dX6_turned_23 : decode cX6_turned 23 = .ok (.iload 5, 2) := by decide +kernel
theorem dX6_turned_25 : decode cX6_turned 25 = .ok (.bipush 11, 2) := by decide +kernel
theorem dX6_turned_27 : decode cX6_turned 27 = .ok (.if_icmp .ge 45, 3) := by decide +kernel
theorem dX6_turned_30 : decode cX6_turned 30 = .ok (.aload_n 0, 1) := by decide +kernel
theorem dX6_turned_31 : decode cX6_turned 31 = .ok (.invokevirtual 160, 3) := by decide +kernel
theorem dX6_turned_34 : decode cX6_turned 34 = .ok (.aload_n 0, 1) := by decide +kernel
theorem dX6_turned_35 : decode cX6_turned 35 = .ok (.iload 5, 2) := by decide +kernel
theorem dX6_turned_37 : decode cX6_turned 37 = .ok (.invokevirtual 186, 3) := by decide +kernel
theorem dX6_turned_40 : decode cX6_turned 40 = .ok (.iload 4, 2) := by decide +kernel
theorem dX6_turned_42 : decode cX6_turned 42 = .ok (.aload_n 0, 1) := by decide +kernel
theorem dX6_turned_43 : decode cX6_turned 43 = .ok (.iload_n 1, 1) := by decide +kernel
theorem dX6_turned_44 : decode cX6_turned 44 = .ok (.iload_n 2, 1) := by decide +kernel
theorem dX6_turned_45 : decode cX6_turned 45 = .ok (.invokevirtual 203, 3) := by decide +kernel
theorem dX6_turned_48 : decode cX6_turned 48 = .ok (.ifCond .eq 10, 3) := by decide +kernel
theorem dX6_turned_51 : decode cX6_turned 51 = .ok (.iconst 1, 1) := by decide +kernel
theorem dX6_turned_52 : decode cX6_turned 52 = .ok (.iload 5, 2) := by decide +kernel
theorem dX6_turned_54 : decode cX6_turned 54 = .ok (.ishl, 1) := by decide +kernel
theorem dX6_turned_55 : decode cX6_turned 55 = .ok (.goto 4, 3) := by decide +kernel
theorem dX6_turned_58 : decode cX6_turned 58 = .ok (.iconst 0, 1) := by decide +kernel
theorem dX6_turned_59 : decode cX6_turned 59 = .ok (.ior, 1) := by decide +kernel
theorem dX6_turned_60 : decode cX6_turned 60 = .ok (.istore 4, 2) := by decide +kernel
theorem dX6_turned_62 : decode cX6_turned 62 = .ok (.aload_n 0, 1) := by decide +kernel
theorem dX6_turned_63 : decode cX6_turned 63 = .ok (.invokevirtual 163, 3) := by decide +kernel
theorem dX6_turned_66 : decode cX6_turned 66 = .ok (.iinc 5 1, 3) := by decide +kernel
theorem dX6_turned_69 : decode cX6_turned 69 = .ok (.goto (-46), 3) := by decide +kernel
theorem dX6_turned_72 : decode cX6_turned 72 = .ok (.iload 4, 2) := by decide +kernel
theorem dX6_turned_74 : decode cX6_turned 74 = .ok (.ireturn, 1) := by decide +kernel
theorem dX6_kinds_0 : decode cX6_kinds 0 = .ok (.aload_n 0, 1) := by decide +kernel
theorem dX6_kinds_1 : decode cX6_kinds 1 = .ok (.iload_n 1, 1) := by decide +kernel
theorem dX6_kinds_2 : decode cX6_kinds 2 = .ok (.iload_n 2, 1) := by decide +kernel
theorem dX6_kinds_3 : decode cX6_kinds 3 = .ok (.invokevirtual 200, 3) := by decide +kernel
theorem dX6_kinds_6 : decode cX6_kinds 6 = .ok (.istore_n 3, 1) := by decide +kernel
theorem dX6_kinds_7 : decode cX6_kinds 7 = .ok (.iload_n 3, 1) := by decide +kernel
theorem dX6_kinds_8 : decode cX6_kinds 8 = .ok (.ifCond .lt 9, 3) := by decide +kernel
theorem dX6_kinds_11 : decode cX6_kinds 11 = .ok (.aload_n 0, 1) := by decide +kernel
theorem dX6_kinds_12 : decode cX6_kinds 12 = .ok (.iload_n 3, 1) := by decide +kernel
theorem dX6_kinds_13 : decode cX6_kinds 13 = .ok (.invokevirtual 96, 3) := by decide +kernel
theorem dX6_kinds_16 : decode cX6_kinds 16 = .ok (.ireturn, 1) := by decide +kernel
theorem dX6_kinds_17 : decode cX6_kinds 17 = .ok (.iconst 0, 1) := by decide +kernel
theorem dX6_kinds_18 : decode cX6_kinds 18 = .ok (.istore 4, 2) := by decide +kernel
theorem dX6_kinds_20 : decode cX6_kinds 20 = .ok (.iconst 0, 1) := by decide +kernel
theorem dX6_kinds_21 : decode cX6_kinds 21 = .ok (.istore 5, 2) := by decide +kernel
theorem dX6_kinds_23 : decode cX6_kinds 23 = .ok (.iload 5, 2) := by decide +kernel
theorem dX6_kinds_25 : decode cX6_kinds 25 = .ok (.bipush 6, 2) := by decide +kernel
theorem dX6_kinds_27 : decode cX6_kinds 27 = .ok (.if_icmp .gt 47, 3) := by decide +kernel
theorem dX6_kinds_30 : decode cX6_kinds 30 = .ok (.aload_n 0, 1) := by decide +kernel
theorem dX6_kinds_31 : decode cX6_kinds 31 = .ok (.invokevirtual 160, 3) := by decide +kernel
theorem dX6_kinds_34 : decode cX6_kinds 34 = .ok (.aload_n 0, 1) := by decide +kernel
theorem dX6_kinds_35 : decode cX6_kinds 35 = .ok (.iload_n 2, 1) := by decide +kernel
theorem dX6_kinds_36 : decode cX6_kinds 36 = .ok (.iconst 0, 1) := by decide +kernel
theorem dX6_kinds_37 : decode cX6_kinds 37 = .ok (.iload 5, 2) := by decide +kernel
theorem dX6_kinds_39 : decode cX6_kinds 39 = .ok (.invokevirtual 43, 3) := by decide +kernel
theorem dX6_kinds_42 : decode cX6_kinds 42 = .ok (.iload 4, 2) := by decide +kernel
theorem dX6_kinds_44 : decode cX6_kinds 44 = .ok (.aload_n 0, 1) := by decide +kernel
theorem dX6_kinds_45 : decode cX6_kinds 45 = .ok (.iload_n 1, 1) := by decide +kernel
theorem dX6_kinds_46 : decode cX6_kinds 46 = .ok (.iload_n 2, 1) := by decide +kernel
theorem dX6_kinds_47 : decode cX6_kinds 47 = .ok (.invokevirtual 203, 3) := by decide +kernel
theorem dX6_kinds_50 : decode cX6_kinds 50 = .ok (.ifCond .eq 10, 3) := by decide +kernel
theorem dX6_kinds_53 : decode cX6_kinds 53 = .ok (.iconst 1, 1) := by decide +kernel
theorem dX6_kinds_54 : decode cX6_kinds 54 = .ok (.iload 5, 2) := by decide +kernel
theorem dX6_kinds_56 : decode cX6_kinds 56 = .ok (.ishl, 1) := by decide +kernel
theorem dX6_kinds_57 : decode cX6_kinds 57 = .ok (.goto 4, 3) := by decide +kernel
theorem dX6_kinds_60 : decode cX6_kinds 60 = .ok (.iconst 0, 1) := by decide +kernel
theorem dX6_kinds_61 : decode cX6_kinds 61 = .ok (.ior, 1) := by decide +kernel
theorem dX6_kinds_62 : decode cX6_kinds 62 = .ok (.istore 4, 2) := by decide +kernel
theorem dX6_kinds_64 : decode cX6_kinds 64 = .ok (.aload_n 0, 1) := by decide +kernel
theorem dX6_kinds_65 : decode cX6_kinds 65 = .ok (.invokevirtual 163, 3) := by decide +kernel
theorem dX6_kinds_68 : decode cX6_kinds 68 = .ok (.iinc 5 1, 3) := by decide +kernel
theorem dX6_kinds_71 : decode cX6_kinds 71 = .ok (.goto (-48), 3) := by decide +kernel
theorem dX6_kinds_74 : decode cX6_kinds 74 = .ok (.iload 4, 2) := by decide +kernel
theorem dX6_kinds_76 : decode cX6_kinds 76 = .ok (.ireturn, 1) := by decide +kernel
theorem dX6_draw_0 : decode cX6_draw 0 = .ok (.aload_n 0, 1) := by decide +kernel
theorem dX6_draw_1 : decode cX6_draw 1 = .ok (.getfield 9, 3) := by decide +kernel
theorem dX6_draw_4 : decode cX6_draw 4 = .ok (.iconst 1, 1) := by decide +kernel
theorem dX6_draw_5 : decode cX6_draw 5 = .ok (.aload_n 0, 1) := by decide +kernel
theorem dX6_draw_6 : decode cX6_draw 6 = .ok (.getfield 9, 3) := by decide +kernel
theorem dX6_draw_9 : decode cX6_draw 9 = .ok (.iconst 1, 1) := by decide +kernel
theorem dX6_draw_10 : decode cX6_draw 10 = .ok (.iaload, 1) := by decide +kernel
theorem dX6_draw_11 : decode cX6_draw 11 = .ok (.ldc 206, 2) := by decide +kernel
theorem dX6_draw_13 : decode cX6_draw 13 = .ok (.imul, 1) := by decide +kernel
theorem dX6_draw_14 : decode cX6_draw 14 = .ok (.sipush 12345, 3) := by decide +kernel
theorem dX6_draw_17 : decode cX6_draw 17 = .ok (.iadd, 1) := by decide +kernel
theorem dX6_draw_18 : decode cX6_draw 18 = .ok (.iastore, 1) := by decide +kernel
theorem dX6_draw_19 : decode cX6_draw 19 = .ok (.aload_n 0, 1) := by decide +kernel
theorem dX6_draw_20 : decode cX6_draw 20 = .ok (.getfield 9, 3) := by decide +kernel
theorem dX6_draw_23 : decode cX6_draw 23 = .ok (.iconst 1, 1) := by decide +kernel
theorem dX6_draw_24 : decode cX6_draw 24 = .ok (.iaload, 1) := by decide +kernel
theorem dX6_draw_25 : decode cX6_draw 25 = .ok (.bipush 8, 2) := by decide +kernel
theorem dX6_draw_27 : decode cX6_draw 27 = .ok (.iushr, 1) := by decide +kernel
theorem dX6_draw_28 : decode cX6_draw 28 = .ok (.ireturn, 1) := by decide +kernel
theorem dX6_showers_0 : decode cX6_showers 0 = .ok (.iload_n 1, 1) := by decide +kernel
theorem dX6_showers_1 : decode cX6_showers 1 = .ok (.i2l, 1) := by decide +kernel
theorem dX6_showers_2 : decode cX6_showers 2 = .ok (.lconst 1, 1) := by decide +kernel
theorem dX6_showers_3 : decode cX6_showers 3 = .ok (.ldc2_w 207, 3) := by decide +kernel
theorem dX6_showers_6 : decode cX6_showers 6 = .ok (.invokestatic 54, 3) := by decide +kernel
theorem dX6_showers_9 : decode cX6_showers 9 = .ok (.ifCond .ne 9, 3) := by decide +kernel
theorem dX6_showers_12 : decode cX6_showers 12 = .ok (.aload_n 0, 1) := by decide +kernel
theorem dX6_showers_13 : decode cX6_showers 13 = .ok (.iconst 0, 1) := by decide +kernel
theorem dX6_showers_14 : decode cX6_showers 14 = .ok (.invokevirtual 96, 3) := by decide +kernel
theorem dX6_showers_17 : decode cX6_showers 17 = .ok (.ireturn, 1) := by decide +kernel
theorem dX6_showers_18 : decode cX6_showers 18 = .ok (.aload_n 0, 1) := by decide +kernel
theorem dX6_showers_19 : decode cX6_showers 19 = .ok (.getfield 9, 3) := by decide +kernel
theorem dX6_showers_22 : decode cX6_showers 22 = .ok (.iconst 0, 1) := by decide +kernel
theorem dX6_showers_23 : decode cX6_showers 23 = .ok (.iaload, 1) := by decide +kernel
theorem dX6_showers_24 : decode cX6_showers 24 = .ok (.iload_n 1, 1) := by decide +kernel
theorem dX6_showers_25 : decode cX6_showers 25 = .ok (.iadd, 1) := by decide +kernel
theorem dX6_showers_26 : decode cX6_showers 26 = .ok (.ldc 143, 2) := by decide +kernel
theorem dX6_showers_28 : decode cX6_showers 28 = .ok (.if_icmp .le 9, 3) := by decide +kernel
theorem dX6_showers_31 : decode cX6_showers 31 = .ok (.aload_n 0, 1) := by decide +kernel
theorem dX6_showers_32 : decode cX6_showers 32 = .ok (.iconst 4, 1) := by decide +kernel
theorem dX6_showers_33 : decode cX6_showers 33 = .ok (.invokevirtual 96, 3) := by decide +kernel
theorem dX6_showers_36 : decode cX6_showers 36 = .ok (.ireturn, 1) := by decide +kernel
theorem dX6_showers_37 : decode cX6_showers 37 = .ok (.iconst 0, 1) := by decide +kernel
theorem dX6_showers_38 : decode cX6_showers 38 = .ok (.istore_n 2, 1) := by decide +kernel
theorem dX6_showers_39 : decode cX6_showers 39 = .ok (.iconst 0, 1) := by decide +kernel
theorem dX6_showers_40 : decode cX6_showers 40 = .ok (.istore_n 3, 1) := by decide +kernel
theorem dX6_showers_41 : decode cX6_showers 41 = .ok (.iload_n 3, 1) := by decide +kernel
theorem dX6_showers_42 : decode cX6_showers 42 = .ok (.iload_n 1, 1) := by decide +kernel
theorem dX6_showers_43 : decode cX6_showers 43 = .ok (.if_icmp .ge 41, 3) := by decide +kernel
theorem dX6_showers_46 : decode cX6_showers 46 = .ok (.aload_n 0, 1) := by decide +kernel
theorem dX6_showers_47 : decode cX6_showers 47 = .ok (.getfield 9, 3) := by decide +kernel
theorem dX6_showers_50 : decode cX6_showers 50 = .ok (.iconst 2, 1) := by decide +kernel
theorem dX6_showers_51 : decode cX6_showers 51 = .ok (.aload_n 0, 1) := by decide +kernel
theorem dX6_showers_52 : decode cX6_showers 52 = .ok (.invokevirtual 209, 3) := by decide +kernel
theorem dX6_showers_55 : decode cX6_showers 55 = .ok (.bipush 100, 2) := by decide +kernel
theorem dX6_showers_57 : decode cX6_showers 57 = .ok (.irem, 1) := by decide +kernel
theorem dX6_showers_58 : decode cX6_showers 58 = .ok (.iastore, 1) := by decide +kernel
theorem dX6_showers_59 : decode cX6_showers 59 = .ok (.aload_n 0, 1) := by decide +kernel
theorem dX6_showers_60 : decode cX6_showers 60 = .ok (.invokevirtual 138, 3) := by decide +kernel
theorem dX6_showers_63 : decode cX6_showers 63 = .ok (.iload_n 2, 1) := by decide +kernel
theorem dX6_showers_64 : decode cX6_showers 64 = .ok (.aload_n 0, 1) := by decide +kernel
theorem dX6_showers_65 : decode cX6_showers 65 = .ok (.getfield 131, 3) := by decide +kernel
theorem dX6_showers_68 : decode cX6_showers 68 = .ok (.ifCond .ne 7, 3) := by decide +kernel
theorem dX6_showers_71 : decode cX6_showers 71 = .ok (.iconst 0, 1) := by decide +kernel
theorem dX6_showers_72 : decode cX6_showers 72 = .ok (.goto 4, 3) := by decide +kernel
theorem dX6_showers_75 : decode cX6_showers 75 = .ok (.iconst 1, 1) := by decide +kernel
theorem dX6_showers_76 : decode cX6_showers 76 = .ok (.iadd, 1) := by decide +kernel
theorem dX6_showers_77 : decode cX6_showers 77 = .ok (.istore_n 2, 1) := by decide +kernel
theorem dX6_showers_78 : decode cX6_showers 78 = .ok (.iinc 3 1, 3) := by decide +kernel
theorem dX6_showers_81 : decode cX6_showers 81 = .ok (.goto (-40), 3) := by decide +kernel
theorem dX6_showers_84 : decode cX6_showers 84 = .ok (.iload_n 2, 1) := by decide +kernel
theorem dX6_showers_85 : decode cX6_showers 85 = .ok (.ireturn, 1) := by decide +kernel
theorem dX6_odds_0 : decode cX6_odds 0 = .ok (.iload_n 1, 1) := by decide +kernel
theorem dX6_odds_1 : decode cX6_odds 1 = .ok (.i2l, 1) := by decide +kernel
theorem dX6_odds_2 : decode cX6_odds 2 = .ok (.lconst 0, 1) := by decide +kernel
theorem dX6_odds_3 : decode cX6_odds 3 = .ok (.ldc2_w 153, 3) := by decide +kernel
theorem dX6_odds_6 : decode cX6_odds 6 = .ok (.invokestatic 54, 3) := by decide +kernel
theorem dX6_odds_9 : decode cX6_odds 9 = .ok (.ifCond .eq 25, 3) := by decide +kernel
theorem dX6_odds_12 : decode cX6_odds 12 = .ok (.iload_n 2, 1) := by decide +kernel
theorem dX6_odds_13 : decode cX6_odds 13 = .ok (.i2l, 1) := by decide +kernel
theorem dX6_odds_14 : decode cX6_odds 14 = .ok (.lconst 0, 1) := by decide +kernel
theorem dX6_odds_15 : decode cX6_odds 15 = .ok (.ldc2_w 99, 3) := by decide +kernel
theorem dX6_odds_18 : decode cX6_odds 18 = .ok (.invokestatic 54, 3) := by decide +kernel
theorem dX6_odds_21 : decode cX6_odds 21 = .ok (.ifCond .eq 13, 3) := by decide +kernel
theorem dX6_odds_24 : decode cX6_odds 24 = .ok (.iload_n 3, 1) := by decide +kernel
theorem dX6_odds_25 : decode cX6_odds 25 = .ok (.i2l, 1) := by decide +kernel
theorem dX6_odds_26 : decode cX6_odds 26 = .ok (.lconst 0, 1) := by decide +kernel
theorem dX6_odds_27 : decode cX6_odds 27 = .ok (.lconst 1, 1) := by decide +kernel
theorem dX6_odds_28 : decode cX6_odds 28 = .ok (.invokestatic 54, 3) := by decide +kernel
theorem dX6_odds_31 : decode cX6_odds 31 = .ok (.ifCond .ne 10, 3) := by decide +kernel
theorem dX6_odds_34 : decode cX6_odds 34 = .ok (.aload_n 0, 1) := by decide +kernel
theorem dX6_odds_35 : decode cX6_odds 35 = .ok (.iconst 0, 1) := by decide +kernel
theorem dX6_odds_36 : decode cX6_odds 36 = .ok (.invokevirtual 96, 3) := by decide +kernel
theorem dX6_odds_39 : decode cX6_odds 39 = .ok (.i2l, 1) := by decide +kernel
theorem dX6_odds_40 : decode cX6_odds 40 = .ok (.lreturn, 1) := by decide +kernel
theorem dX6_odds_41 : decode cX6_odds 41 = .ok (.lconst 1, 1) := by decide +kernel
theorem dX6_odds_42 : decode cX6_odds 42 = .ok (.lstore 4, 2) := by decide +kernel
theorem dX6_odds_44 : decode cX6_odds 44 = .ok (.lconst 1, 1) := by decide +kernel
theorem dX6_odds_45 : decode cX6_odds 45 = .ok (.lstore 6, 2) := by decide +kernel
theorem dX6_odds_47 : decode cX6_odds 47 = .ok (.iconst 0, 1) := by decide +kernel
theorem dX6_odds_48 : decode cX6_odds 48 = .ok (.istore 8, 2) := by decide +kernel
theorem dX6_odds_50 : decode cX6_odds 50 = .ok (.iload 8, 2) := by decide +kernel
theorem dX6_odds_52 : decode cX6_odds 52 = .ok (.iload_n 2, 1) := by decide +kernel
theorem dX6_odds_53 : decode cX6_odds 53 = .ok (.if_icmp .ge 27, 3) := by decide +kernel
theorem dX6_odds_56 : decode cX6_odds 56 = .ok (.lload 4, 2) := by decide +kernel
theorem dX6_odds_58 : decode cX6_odds 58 = .ok (.bipush 100, 2) := by decide +kernel
theorem dX6_odds_60 : decode cX6_odds 60 = .ok (.iload_n 1, 1) := by decide +kernel
theorem dX6_odds_61 : decode cX6_odds 61 = .ok (.isub, 1) := by decide +kernel
theorem dX6_odds_62 : decode cX6_odds 62 = .ok (.i2l, 1) := by decide +kernel
theorem dX6_odds_63 : decode cX6_odds 63 = .ok (.lmul, 1) := by decide +kernel
theorem dX6_odds_64 : decode cX6_odds 64 = .ok (.lstore 4, 2) := by decide +kernel
theorem dX6_odds_66 : decode cX6_odds 66 = .ok (.lload 6, 2) := by decide +kernel
theorem dX6_odds_68 : decode cX6_odds 68 = .ok (.ldc2_w 153, 3) := by decide +kernel
theorem dX6_odds_71 : decode cX6_odds 71 = .ok (.lmul, 1) := by decide +kernel
theorem dX6_odds_72 : decode cX6_odds 72 = .ok (.lstore 6, 2) := by decide +kernel
theorem dX6_odds_74 : decode cX6_odds 74 = .ok (.iinc 8 1, 3) := by decide +kernel
theorem dX6_odds_77 : decode cX6_odds 77 = .ok (.goto (-27), 3) := by decide +kernel
theorem dX6_odds_80 : decode cX6_odds 80 = .ok (.lload 4, 2) := by decide +kernel
theorem dX6_odds_82 : decode cX6_odds 82 = .ok (.lstore 8, 2) := by decide +kernel
theorem dX6_odds_84 : decode cX6_odds 84 = .ok (.lload 6, 2) := by decide +kernel
theorem dX6_odds_86 : decode cX6_odds 86 = .ok (.lstore 10, 2) := by decide +kernel
theorem dX6_odds_88 : decode cX6_odds 88 = .ok (.lload 10, 2) := by decide +kernel
theorem dX6_odds_90 : decode cX6_odds 90 = .ok (.lconst 0, 1) := by decide +kernel
theorem dX6_odds_91 : decode cX6_odds 91 = .ok (.lcmp, 1) := by decide +kernel
theorem dX6_odds_92 : decode cX6_odds 92 = .ok (.ifCond .eq 21, 3) := by decide +kernel
theorem dX6_odds_95 : decode cX6_odds 95 = .ok (.lload 8, 2) := by decide +kernel
theorem dX6_odds_97 : decode cX6_odds 97 = .ok (.lload 10, 2) := by decide +kernel
theorem dX6_odds_99 : decode cX6_odds 99 = .ok (.lrem, 1) := by decide +kernel
theorem dX6_odds_100 : decode cX6_odds 100 = .ok (.lstore 12, 2) := by decide +kernel
theorem dX6_odds_102 : decode cX6_odds 102 = .ok (.lload 10, 2) := by decide +kernel
theorem dX6_odds_104 : decode cX6_odds 104 = .ok (.lstore 8, 2) := by decide +kernel
theorem dX6_odds_106 : decode cX6_odds 106 = .ok (.lload 12, 2) := by decide +kernel
theorem dX6_odds_108 : decode cX6_odds 108 = .ok (.lstore 10, 2) := by decide +kernel
theorem dX6_odds_110 : decode cX6_odds 110 = .ok (.goto (-22), 3) := by decide +kernel
theorem dX6_odds_113 : decode cX6_odds 113 = .ok (.iload_n 3, 1) := by decide +kernel
theorem dX6_odds_114 : decode cX6_odds 114 = .ok (.ifCond .ne 8, 3) := by decide +kernel
theorem dX6_odds_117 : decode cX6_odds 117 = .ok (.lload 4, 2) := by decide +kernel
theorem dX6_odds_119 : decode cX6_odds 119 = .ok (.goto 5, 3) := by decide +kernel
theorem dX6_odds_122 : decode cX6_odds 122 = .ok (.lload 6, 2) := by decide +kernel
theorem dX6_odds_124 : decode cX6_odds 124 = .ok (.lload 8, 2) := by decide +kernel
theorem dX6_odds_126 : decode cX6_odds 126 = .ok (.ldiv, 1) := by decide +kernel
theorem dX6_odds_127 : decode cX6_odds 127 = .ok (.lreturn, 1) := by decide +kernel
theorem dX6_seed_0 : decode cX6_seed 0 = .ok (.aload_n 0, 1) := by decide +kernel
theorem dX6_seed_1 : decode cX6_seed 1 = .ok (.iconst 1, 1) := by decide +kernel
theorem dX6_seed_2 : decode cX6_seed 2 = .ok (.iload_n 1, 1) := by decide +kernel
theorem dX6_seed_3 : decode cX6_seed 3 = .ok (.invokevirtual 93, 3) := by decide +kernel
theorem dX6_seed_6 : decode cX6_seed 6 = .ok (.ireturn, 1) := by decide +kernel
theorem dX6_feed_0 : decode cX6_feed 0 = .ok (.iload_n 2, 1) := by decide +kernel
theorem dX6_feed_1 : decode cX6_feed 1 = .ok (.i2l, 1) := by decide +kernel
theorem dX6_feed_2 : decode cX6_feed 2 = .ok (.lconst 1, 1) := by decide +kernel
theorem dX6_feed_3 : decode cX6_feed 3 = .ok (.ldc2_w 212, 3) := by decide +kernel
theorem dX6_feed_6 : decode cX6_feed 6 = .ok (.invokestatic 54, 3) := by decide +kernel
theorem dX6_feed_9 : decode cX6_feed 9 = .ok (.ifCond .ne 9, 3) := by decide +kernel
theorem dX6_feed_12 : decode cX6_feed 12 = .ok (.aload_n 0, 1) := by decide +kernel
theorem dX6_feed_13 : decode cX6_feed 13 = .ok (.iconst 0, 1) := by decide +kernel
theorem dX6_feed_14 : decode cX6_feed 14 = .ok (.invokevirtual 96, 3) := by decide +kernel
theorem dX6_feed_17 : decode cX6_feed 17 = .ok (.ireturn, 1) := by decide +kernel
theorem dX6_feed_18 : decode cX6_feed 18 = .ok (.aload_n 0, 1) := by decide +kernel
theorem dX6_feed_19 : decode cX6_feed 19 = .ok (.getfield 214, 3) := by decide +kernel
theorem dX6_feed_22 : decode cX6_feed 22 = .ok (.iload_n 2, 1) := by decide +kernel
theorem dX6_feed_23 : decode cX6_feed 23 = .ok (.iadd, 1) := by decide +kernel
theorem dX6_feed_24 : decode cX6_feed 24 = .ok (.bipush 120, 2) := by decide +kernel
theorem dX6_feed_26 : decode cX6_feed 26 = .ok (.if_icmp .le 9, 3) := by decide +kernel
theorem dX6_feed_29 : decode cX6_feed 29 = .ok (.aload_n 0, 1) := by decide +kernel
theorem dX6_feed_30 : decode cX6_feed 30 = .ok (.iconst 1, 1) := by decide +kernel
theorem dX6_feed_31 : decode cX6_feed 31 = .ok (.invokevirtual 96, 3) := by decide +kernel
theorem dX6_feed_34 : decode cX6_feed 34 = .ok (.ireturn, 1) := by decide +kernel
theorem dX6_feed_35 : decode cX6_feed 35 = .ok (.iload_n 2, 1) := by decide +kernel
theorem dX6_feed_36 : decode cX6_feed 36 = .ok (.iconst 1, 1) := by decide +kernel
theorem dX6_feed_37 : decode cX6_feed 37 = .ok (.isub, 1) := by decide +kernel
theorem dX6_feed_38 : decode cX6_feed 38 = .ok (.istore_n 3, 1) := by decide +kernel
theorem dX6_feed_39 : decode cX6_feed 39 = .ok (.iload_n 3, 1) := by decide +kernel
theorem dX6_feed_40 : decode cX6_feed 40 = .ok (.ifCond .lt 38, 3) := by decide +kernel
theorem dX6_feed_43 : decode cX6_feed 43 = .ok (.aload_n 0, 1) := by decide +kernel
theorem dX6_feed_44 : decode cX6_feed 44 = .ok (.getfield 28, 3) := by decide +kernel
theorem dX6_feed_47 : decode cX6_feed 47 = .ok (.aload_n 0, 1) := by decide +kernel
theorem dX6_feed_48 : decode cX6_feed 48 = .ok (.getfield 214, 3) := by decide +kernel
theorem dX6_feed_51 : decode cX6_feed 51 = .ok (.iload_n 1, 1) := by decide +kernel
theorem dX6_feed_52 : decode cX6_feed 52 = .ok (.bipush 8, 2) := by decide +kernel
theorem dX6_feed_54 : decode cX6_feed 54 = .ok (.iload_n 3, 1) := by decide +kernel
theorem dX6_feed_55 : decode cX6_feed 55 = .ok (.imul, 1) := by decide +kernel
theorem dX6_feed_56 : decode cX6_feed 56 = .ok (.ishr, 1) := by decide +kernel
theorem dX6_feed_57 : decode cX6_feed 57 = .ok (.sipush 255, 3) := by decide +kernel
theorem dX6_feed_60 : decode cX6_feed 60 = .ok (.iand, 1) := by decide +kernel
theorem dX6_feed_61 : decode cX6_feed 61 = .ok (.iastore, 1) := by decide +kernel
theorem dX6_feed_62 : decode cX6_feed 62 = .ok (.aload_n 0, 1) := by decide +kernel
theorem dX6_feed_63 : decode cX6_feed 63 = .ok (.dup, 1) := by decide +kernel
theorem dX6_feed_64 : decode cX6_feed 64 = .ok (.getfield 214, 3) := by decide +kernel
theorem dX6_feed_67 : decode cX6_feed 67 = .ok (.iconst 1, 1) := by decide +kernel
theorem dX6_feed_68 : decode cX6_feed 68 = .ok (.iadd, 1) := by decide +kernel
theorem dX6_feed_69 : decode cX6_feed 69 = .ok (.putfield 214, 3) := by decide +kernel
theorem dX6_feed_72 : decode cX6_feed 72 = .ok (.iinc 3 (-1), 3) := by decide +kernel
theorem dX6_feed_75 : decode cX6_feed 75 = .ok (.goto (-36), 3) := by decide +kernel
theorem dX6_feed_78 : decode cX6_feed 78 = .ok (.aload_n 0, 1) := by decide +kernel
theorem dX6_feed_79 : decode cX6_feed 79 = .ok (.getfield 214, 3) := by decide +kernel
theorem dX6_feed_82 : decode cX6_feed 82 = .ok (.ireturn, 1) := by decide +kernel
theorem dX6_wipe_0 : decode cX6_wipe 0 = .ok (.aload_n 0, 1) := by decide +kernel
theorem dX6_wipe_1 : decode cX6_wipe 1 = .ok (.getfield 214, 3) := by decide +kernel
theorem dX6_wipe_4 : decode cX6_wipe 4 = .ok (.istore_n 1, 1) := by decide +kernel
theorem dX6_wipe_5 : decode cX6_wipe 5 = .ok (.aload_n 0, 1) := by decide +kernel
theorem dX6_wipe_6 : decode cX6_wipe 6 = .ok (.iconst 0, 1) := by decide +kernel
theorem dX6_wipe_7 : decode cX6_wipe 7 = .ok (.putfield 214, 3) := by decide +kernel
theorem dX6_wipe_10 : decode cX6_wipe 10 = .ok (.iload_n 1, 1) := by decide +kernel
theorem dX6_wipe_11 : decode cX6_wipe 11 = .ok (.ireturn, 1) := by decide +kernel
theorem dX6_isByte_0 : decode cX6_isByte 0 = .ok (.iload_n 1, 1) := by decide +kernel
theorem dX6_isByte_1 : decode cX6_isByte 1 = .ok (.aload_n 0, 1) := by decide +kernel
theorem dX6_isByte_2 : decode cX6_isByte 2 = .ok (.getfield 214, 3) := by decide +kernel
theorem dX6_isByte_5 : decode cX6_isByte 5 = .ok (.if_icmp .ge 24, 3) := by decide +kernel
theorem dX6_isByte_8 : decode cX6_isByte 8 = .ok (.aload_n 0, 1) := by decide +kernel
theorem dX6_isByte_9 : decode cX6_isByte 9 = .ok (.getfield 28, 3) := by decide +kernel
theorem dX6_isByte_12 : decode cX6_isByte 12 = .ok (.iload_n 1, 1) := by decide +kernel
theorem dX6_isByte_13 : decode cX6_isByte 13 = .ok (.iaload, 1) := by decide +kernel
theorem dX6_isByte_14 : decode cX6_isByte 14 = .ok (.i2l, 1) := by decide +kernel
theorem dX6_isByte_15 : decode cX6_isByte 15 = .ok (.iload_n 2, 1) := by decide +kernel
theorem dX6_isByte_16 : decode cX6_isByte 16 = .ok (.i2l, 1) := by decide +kernel
theorem dX6_isByte_17 : decode cX6_isByte 17 = .ok (.iload_n 3, 1) := by decide +kernel
theorem dX6_isByte_18 : decode cX6_isByte 18 = .ok (.i2l, 1) := by decide +kernel
theorem dX6_isByte_19 : decode cX6_isByte 19 = .ok (.invokestatic 54, 3) := by decide +kernel
theorem dX6_isByte_22 : decode cX6_isByte 22 = .ok (.ifCond .eq 7, 3) := by decide +kernel
theorem dX6_isByte_25 : decode cX6_isByte 25 = .ok (.iconst 1, 1) := by decide +kernel
theorem dX6_isByte_26 : decode cX6_isByte 26 = .ok (.goto 4, 3) := by decide +kernel
theorem dX6_isByte_29 : decode cX6_isByte 29 = .ok (.iconst 0, 1) := by decide +kernel
theorem dX6_isByte_30 : decode cX6_isByte 30 = .ok (.ireturn, 1) := by decide +kernel
theorem dX6_next_0 : decode cX6_next 0 = .ok (.aload_n 0, 1) := by decide +kernel
theorem dX6_next_1 : decode cX6_next 1 = .ok (.aload_n 0, 1) := by decide +kernel
theorem dX6_next_2 : decode cX6_next 2 = .ok (.getfield 217, 3) := by decide +kernel
theorem dX6_next_5 : decode cX6_next 5 = .ok (.putfield 220, 3) := by decide +kernel
theorem dX6_next_8 : decode cX6_next 8 = .ok (.aload_n 0, 1) := by decide +kernel
theorem dX6_next_9 : decode cX6_next 9 = .ok (.aload_n 0, 1) := by decide +kernel
theorem dX6_next_10 : decode cX6_next 10 = .ok (.getfield 220, 3) := by decide +kernel
theorem dX6_next_13 : decode cX6_next 13 = .ok (.bipush 32, 2) := by decide +kernel
theorem dX6_next_15 : decode cX6_next 15 = .ok (.bipush 32, 2) := by decide +kernel
theorem dX6_next_17 : decode cX6_next 17 = .ok (.invokevirtual 223, 3) := by decide +kernel
theorem dX6_next_20 : decode cX6_next 20 = .ok (.ifCond .eq 16, 3) := by decide +kernel
theorem dX6_next_23 : decode cX6_next 23 = .ok (.aload_n 0, 1) := by decide +kernel
theorem dX6_next_24 : decode cX6_next 24 = .ok (.dup, 1) := by decide +kernel
theorem dX6_next_25 : decode cX6_next 25 = .ok (.getfield 220, 3) := by decide +kernel
theorem dX6_next_28 : decode cX6_next 28 = .ok (.iconst 1, 1) := by decide +kernel
theorem dX6_next_29 : decode cX6_next 29 = .ok (.iadd, 1) := by decide +kernel
theorem dX6_next_30 : decode cX6_next 30 = .ok (.putfield 220, 3) := by decide +kernel
theorem dX6_next_33 : decode cX6_next 33 = .ok (.goto (-25), 3) := by decide +kernel
theorem dX6_next_36 : decode cX6_next 36 = .ok (.aload_n 0, 1) := by decide +kernel
theorem dX6_next_37 : decode cX6_next 37 = .ok (.aload_n 0, 1) := by decide +kernel
theorem dX6_next_38 : decode cX6_next 38 = .ok (.getfield 220, 3) := by decide +kernel
theorem dX6_next_41 : decode cX6_next 41 = .ok (.putfield 217, 3) := by decide +kernel
theorem dX6_next_44 : decode cX6_next 44 = .ok (.aload_n 0, 1) := by decide +kernel
theorem dX6_next_45 : decode cX6_next 45 = .ok (.aload_n 0, 1) := by decide +kernel
theorem dX6_next_46 : decode cX6_next 46 = .ok (.getfield 220, 3) := by decide +kernel
theorem dX6_next_49 : decode cX6_next 49 = .ok (.bipush 97, 2) := by decide +kernel
theorem dX6_next_51 : decode cX6_next 51 = .ok (.bipush 122, 2) := by decide +kernel
theorem dX6_next_53 : decode cX6_next 53 = .ok (.invokevirtual 223, 3) := by decide +kernel
theorem dX6_next_56 : decode cX6_next 56 = .ok (.istore_n 1, 1) := by decide +kernel
theorem dX6_next_57 : decode cX6_next 57 = .ok (.aload_n 0, 1) := by decide +kernel
theorem dX6_next_58 : decode cX6_next 58 = .ok (.aload_n 0, 1) := by decide +kernel
theorem dX6_next_59 : decode cX6_next 59 = .ok (.getfield 220, 3) := by decide +kernel
theorem dX6_next_62 : decode cX6_next 62 = .ok (.bipush 48, 2) := by decide +kernel
theorem dX6_next_64 : decode cX6_next 64 = .ok (.bipush 57, 2) := by decide +kernel
theorem dX6_next_66 : decode cX6_next 66 = .ok (.invokevirtual 223, 3) := by decide +kernel
theorem dX6_next_69 : decode cX6_next 69 = .ok (.istore_n 2, 1) := by decide +kernel
theorem dX6_next_70 : decode cX6_next 70 = .ok (.iload_n 1, 1) := by decide +kernel
theorem dX6_next_71 : decode cX6_next 71 = .ok (.ifCond .eq 18, 3) := by decide +kernel
theorem dX6_next_74 : decode cX6_next 74 = .ok (.aload_n 0, 1) := by decide +kernel
theorem dX6_next_75 : decode cX6_next 75 = .ok (.aload_n 0, 1) := by decide +kernel
theorem dX6_next_76 : decode cX6_next 76 = .ok (.getfield 217, 3) := by decide +kernel
theorem dX6_next_79 : decode cX6_next 79 = .ok (.bipush 97, 2) := by decide +kernel
theorem dX6_next_81 : decode cX6_next 81 = .ok (.bipush 122, 2) := by decide +kernel
theorem dX6_next_83 : decode cX6_next 83 = .ok (.invokevirtual 223, 3) := by decide +kernel
theorem dX6_next_86 : decode cX6_next 86 = .ok (.ifCond .ne 22, 3) := by decide +kernel
theorem dX6_next_89 : decode cX6_next 89 = .ok (.iload_n 2, 1) := by decide +kernel
theorem dX6_next_90 : decode cX6_next 90 = .ok (.ifCond .eq 31, 3) := by decide +kernel
theorem dX6_next_93 : decode cX6_next 93 = .ok (.aload_n 0, 1) := by decide +kernel
theorem dX6_next_94 : decode cX6_next 94 = .ok (.aload_n 0, 1) := by decide +kernel
theorem dX6_next_95 : decode cX6_next 95 = .ok (.getfield 217, 3) := by decide +kernel
theorem dX6_next_98 : decode cX6_next 98 = .ok (.bipush 48, 2) := by decide +kernel
theorem dX6_next_100 : decode cX6_next 100 = .ok (.bipush 57, 2) := by decide +kernel
theorem dX6_next_102 : decode cX6_next 102 = .ok (.invokevirtual 223, 3) := by decide +kernel
theorem dX6_next_105 : decode cX6_next 105 = .ok (.ifCond .eq 16, 3) := by decide +kernel
theorem dX6_next_108 : decode cX6_next 108 = .ok (.aload_n 0, 1) := by decide +kernel
theorem dX6_next_109 : decode cX6_next 109 = .ok (.dup, 1) := by decide +kernel
theorem dX6_next_110 : decode cX6_next 110 = .ok (.getfield 217, 3) := by decide +kernel
theorem dX6_next_113 : decode cX6_next 113 = .ok (.iconst 1, 1) := by decide +kernel
theorem dX6_next_114 : decode cX6_next 114 = .ok (.iadd, 1) := by decide +kernel
theorem dX6_next_115 : decode cX6_next 115 = .ok (.putfield 217, 3) := by decide +kernel
theorem dX6_next_118 : decode cX6_next 118 = .ok (.goto (-48), 3) := by decide +kernel
theorem dX6_next_121 : decode cX6_next 121 = .ok (.aload_n 0, 1) := by decide +kernel
theorem dX6_next_122 : decode cX6_next 122 = .ok (.dup, 1) := by decide +kernel
theorem dX6_next_123 : decode cX6_next 123 = .ok (.getfield 217, 3) := by decide +kernel
theorem dX6_next_126 : decode cX6_next 126 = .ok (.iload_n 1, 1) := by decide +kernel
theorem dX6_next_127 : decode cX6_next 127 = .ok (.ifCond .ne 22, 3) := by decide +kernel
theorem dX6_next_130 : decode cX6_next 130 = .ok (.iload_n 2, 1) := by decide +kernel
theorem dX6_next_131 : decode cX6_next 131 = .ok (.ifCond .ne 18, 3) := by decide +kernel
theorem dX6_next_134 : decode cX6_next 134 = .ok (.aload_n 0, 1) := by decide +kernel
theorem dX6_next_135 : decode cX6_next 135 = .ok (.getfield 220, 3) := by decide +kernel
theorem dX6_next_138 : decode cX6_next 138 = .ok (.aload_n 0, 1) := by decide +kernel
theorem dX6_next_139 : decode cX6_next 139 = .ok (.getfield 214, 3) := by decide +kernel
theorem dX6_next_142 : decode cX6_next 142 = .ok (.if_icmp .ge 7, 3) := by decide +kernel
theorem dX6_next_145 : decode cX6_next 145 = .ok (.iconst 1, 1) := by decide +kernel
theorem dX6_next_146 : decode cX6_next 146 = .ok (.goto 4, 3) := by decide +kernel
theorem dX6_next_149 : decode cX6_next 149 = .ok (.iconst 0, 1) := by decide +kernel
theorem dX6_next_150 : decode cX6_next 150 = .ok (.iadd, 1) := by decide +kernel
theorem dX6_next_151 : decode cX6_next 151 = .ok (.putfield 217, 3) := by decide +kernel
theorem dX6_next_154 : decode cX6_next 154 = .ok (.return_, 1) := by decide +kernel
theorem dX6_isWord_0 : decode cX6_isWord 0 = .ok (.aload_n 0, 1) := by decide +kernel
theorem dX6_isWord_1 : decode cX6_isWord 1 = .ok (.getfield 227, 3) := by decide +kernel
theorem dX6_isWord_4 : decode cX6_isWord 4 = .ok (.ifCond .ne 23, 3) := by decide +kernel
theorem dX6_isWord_7 : decode cX6_isWord 7 = .ok (.aload_n 0, 1) := by decide +kernel
theorem dX6_isWord_8 : decode cX6_isWord 8 = .ok (.getfield 217, 3) := by decide +kernel
theorem dX6_isWord_11 : decode cX6_isWord 11 = .ok (.aload_n 0, 1) := by decide +kernel
theorem dX6_isWord_12 : decode cX6_isWord 12 = .ok (.getfield 220, 3) := by decide +kernel
theorem dX6_isWord_15 : decode cX6_isWord 15 = .ok (.isub, 1) := by decide +kernel
theorem dX6_isWord_16 : decode cX6_isWord 16 = .ok (.aload_n 1, 1) := by decide +kernel
theorem dX6_isWord_17 : decode cX6_isWord 17 = .ok (.invokevirtual 231, 3) := by decide +kernel
theorem dX6_isWord_20 : decode cX6_isWord 20 = .ok (.if_icmp .ne 7, 3) := by decide +kernel
theorem dX6_isWord_23 : decode cX6_isWord 23 = .ok (.iconst 1, 1) := by decide +kernel
theorem dX6_isWord_24 : decode cX6_isWord 24 = .ok (.goto 4, 3) := by decide +kernel
theorem dX6_isWord_27 : decode cX6_isWord 27 = .ok (.iconst 0, 1) := by decide +kernel
theorem dX6_isWord_28 : decode cX6_isWord 28 = .ok (.istore_n 2, 1) := by decide +kernel
theorem dX6_isWord_29 : decode cX6_isWord 29 = .ok (.iconst 0, 1) := by decide +kernel
theorem dX6_isWord_30 : decode cX6_isWord 30 = .ok (.istore_n 3, 1) := by decide +kernel
theorem dX6_isWord_31 : decode cX6_isWord 31 = .ok (.iload_n 2, 1) := by decide +kernel
theorem dX6_isWord_32 : decode cX6_isWord 32 = .ok (.ifCond .eq 42, 3) := by decide +kernel
theorem dX6_isWord_35 : decode cX6_isWord 35 = .ok (.iload_n 3, 1) := by decide +kernel
theorem dX6_isWord_36 : decode cX6_isWord 36 = .ok (.aload_n 1, 1) := by decide +kernel
theorem dX6_isWord_37 : decode cX6_isWord 37 = .ok (.invokevirtual 231, 3) := by decide +kernel
theorem dX6_isWord_40 : decode cX6_isWord 40 = .ok (.if_icmp .ge 34, 3) := by decide +kernel
theorem dX6_isWord_43 : decode cX6_isWord 43 = .ok (.aload_n 0, 1) := by decide +kernel
theorem dX6_isWord_44 : decode cX6_isWord 44 = .ok (.getfield 28, 3) := by decide +kernel
theorem dX6_isWord_47 : decode cX6_isWord 47 = .ok (.aload_n 0, 1) := by decide +kernel
theorem dX6_isWord_48 : decode cX6_isWord 48 = .ok (.getfield 220, 3) := by decide +kernel
theorem dX6_isWord_51 : decode cX6_isWord 51 = .ok (.iload_n 3, 1) := by decide +kernel
theorem dX6_isWord_52 : decode cX6_isWord 52 = .ok (.iadd, 1) := by decide +kernel
theorem dX6_isWord_53 : decode cX6_isWord 53 = .ok (.iaload, 1) := by decide +kernel
theorem dX6_isWord_54 : decode cX6_isWord 54 = .ok (.aload_n 1, 1) := by decide +kernel
theorem dX6_isWord_55 : decode cX6_isWord 55 = .ok (.iload_n 3, 1) := by decide +kernel
theorem dX6_isWord_56 : decode cX6_isWord 56 = .ok (.invokevirtual 236, 3) := by decide +kernel
theorem dX6_isWord_59 : decode cX6_isWord 59 = .ok (.if_icmp .ne 7, 3) := by decide +kernel
theorem dX6_isWord_62 : decode cX6_isWord 62 = .ok (.iconst 1, 1) := by decide +kernel
theorem dX6_isWord_63 : decode cX6_isWord 63 = .ok (.goto 4, 3) := by decide +kernel
theorem dX6_isWord_66 : decode cX6_isWord 66 = .ok (.iconst 0, 1) := by decide +kernel
theorem dX6_isWord_67 : decode cX6_isWord 67 = .ok (.istore_n 2, 1) := by decide +kernel
theorem dX6_isWord_68 : decode cX6_isWord 68 = .ok (.iinc 3 1, 3) := by decide +kernel
theorem dX6_isWord_71 : decode cX6_isWord 71 = .ok (.goto (-40), 3) := by decide +kernel
theorem dX6_isWord_74 : decode cX6_isWord 74 = .ok (.iload_n 2, 1) := by decide +kernel
theorem dX6_isWord_75 : decode cX6_isWord 75 = .ok (.ireturn, 1) := by decide +kernel
theorem dX6_must_0 : decode cX6_must 0 = .ok (.aload_n 0, 1) := by decide +kernel
theorem dX6_must_1 : decode cX6_must 1 = .ok (.aload_n 0, 1) := by decide +kernel
theorem dX6_must_2 : decode cX6_must 2 = .ok (.getfield 227, 3) := by decide +kernel
theorem dX6_must_5 : decode cX6_must 5 = .ok (.ifCond .ne 7, 3) := by decide +kernel
theorem dX6_must_8 : decode cX6_must 8 = .ok (.iload_n 1, 1) := by decide +kernel
theorem dX6_must_9 : decode cX6_must 9 = .ok (.ifCond .ne 7, 3) := by decide +kernel
theorem dX6_must_12 : decode cX6_must 12 = .ok (.iconst 1, 1) := by decide +kernel
theorem dX6_must_13 : decode cX6_must 13 = .ok (.goto 4, 3) := by decide +kernel
theorem dX6_must_16 : decode cX6_must 16 = .ok (.iconst 0, 1) := by decide +kernel
theorem dX6_must_17 : decode cX6_must 17 = .ok (.putfield 227, 3) := by decide +kernel
theorem dX6_must_20 : decode cX6_must 20 = .ok (.aload_n 0, 1) := by decide +kernel
theorem dX6_must_21 : decode cX6_must 21 = .ok (.getfield 227, 3) := by decide +kernel
theorem dX6_must_24 : decode cX6_must 24 = .ok (.ifCond .ne 7, 3) := by decide +kernel
theorem dX6_must_27 : decode cX6_must 27 = .ok (.aload_n 0, 1) := by decide +kernel
theorem dX6_must_28 : decode cX6_must 28 = .ok (.invokevirtual 240, 3) := by decide +kernel
theorem dX6_must_31 : decode cX6_must 31 = .ok (.return_, 1) := by decide +kernel
theorem dX6_takes_0 : decode cX6_takes 0 = .ok (.aload_n 0, 1) := by decide +kernel
theorem dX6_takes_1 : decode cX6_takes 1 = .ok (.aload_n 1, 1) := by decide +kernel
theorem dX6_takes_2 : decode cX6_takes 2 = .ok (.invokevirtual 243, 3) := by decide +kernel
theorem dX6_takes_5 : decode cX6_takes 5 = .ok (.istore_n 2, 1) := by decide +kernel
theorem dX6_takes_6 : decode cX6_takes 6 = .ok (.iload_n 2, 1) := by decide +kernel
theorem dX6_takes_7 : decode cX6_takes 7 = .ok (.ifCond .eq 7, 3) := by decide +kernel
theorem dX6_takes_10 : decode cX6_takes 10 = .ok (.aload_n 0, 1) := by decide +kernel
theorem dX6_takes_11 : decode cX6_takes 11 = .ok (.invokevirtual 240, 3) := by decide +kernel
theorem dX6_takes_14 : decode cX6_takes 14 = .ok (.iload_n 2, 1) := by decide +kernel
theorem dX6_takes_15 : decode cX6_takes 15 = .ok (.ireturn, 1) := by decide +kernel
theorem dX6_numberRead_0 : decode cX6_numberRead 0 = .ok (.aload_n 0, 1) := by decide +kernel
theorem dX6_numberRead_1 : decode cX6_numberRead 1 = .ok (.aload_n 0, 1) := by decide +kernel
theorem dX6_numberRead_2 : decode cX6_numberRead 2 = .ok (.getfield 220, 3) := by decide +kernel
theorem dX6_numberRead_5 : decode cX6_numberRead 5 = .ok (.bipush 48, 2) := by decide +kernel
theorem dX6_numberRead_7 : decode cX6_numberRead 7 = .ok (.bipush 57, 2) := by decide +kernel
theorem dX6_numberRead_9 : decode cX6_numberRead 9 = .ok (.invokevirtual 223, 3) := by decide +kernel
theorem dX6_numberRead_12 : decode cX6_numberRead 12 = .ok (.ifCond .eq 7, 3) := by decide +kernel
theorem dX6_numberRead_15 : decode cX6_numberRead 15 = .ok (.iconst 0, 1) := by decide +kernel
theorem dX6_numberRead_16 : decode cX6_numberRead 16 = .ok (.goto 4, 3) := by decide +kernel
theorem dX6_numberRead_19 : decode cX6_numberRead 19 = .ok (.iconst (-1), 1) := by decide +kernel
theorem dX6_numberRead_20 : decode cX6_numberRead 20 = .ok (.istore_n 3, 1) := by decide +kernel
theorem dX6_numberRead_21 : decode cX6_numberRead 21 = .ok (.aload_n 0, 1) := by decide +kernel
theorem dX6_numberRead_22 : decode cX6_numberRead 22 = .ok (.getfield 220, 3) := by decide +kernel
theorem dX6_numberRead_25 : decode cX6_numberRead 25 = .ok (.istore 4, 2) := by decide +kernel
theorem dX6_numberRead_27 : decode cX6_numberRead 27 = .ok (.iload 4, 2) := by decide +kernel
theorem dX6_numberRead_29 : decode cX6_numberRead 29 = .ok (.aload_n 0, 1) := by decide +kernel
theorem dX6_numberRead_30 : decode cX6_numberRead 30 = .ok (.getfield 217, 3) := by decide +kernel
theorem dX6_numberRead_33 : decode cX6_numberRead 33 = .ok (.if_icmp .ge 40, 3) := by decide +kernel
theorem dX6_numberRead_36 : decode cX6_numberRead 36 = .ok (.iload_n 3, 1) := by decide +kernel
theorem dX6_numberRead_37 : decode cX6_numberRead 37 = .ok (.ifCond .lt 36, 3) := by decide +kernel
theorem dX6_numberRead_40 : decode cX6_numberRead 40 = .ok (.iload_n 3, 1) := by decide +kernel
theorem dX6_numberRead_41 : decode cX6_numberRead 41 = .ok (.sipush 9999, 3) := by decide +kernel
theorem dX6_numberRead_44 : decode cX6_numberRead 44 = .ok (.if_icmp .le 7, 3) := by decide +kernel
theorem dX6_numberRead_47 : decode cX6_numberRead 47 = .ok (.iload_n 3, 1) := by decide +kernel
theorem dX6_numberRead_48 : decode cX6_numberRead 48 = .ok (.goto 18, 3) := by decide +kernel
theorem dX6_numberRead_51 : decode cX6_numberRead 51 = .ok (.bipush 10, 2) := by decide +kernel
theorem dX6_numberRead_53 : decode cX6_numberRead 53 = .ok (.iload_n 3, 1) := by decide +kernel
theorem dX6_numberRead_54 : decode cX6_numberRead 54 = .ok (.imul, 1) := by decide +kernel
theorem dX6_numberRead_55 : decode cX6_numberRead 55 = .ok (.aload_n 0, 1) := by decide +kernel
theorem dX6_numberRead_56 : decode cX6_numberRead 56 = .ok (.getfield 28, 3) := by decide +kernel
theorem dX6_numberRead_59 : decode cX6_numberRead 59 = .ok (.iload 4, 2) := by decide +kernel
theorem dX6_numberRead_61 : decode cX6_numberRead 61 = .ok (.iaload, 1) := by decide +kernel
theorem dX6_numberRead_62 : decode cX6_numberRead 62 = .ok (.iadd, 1) := by decide +kernel
theorem dX6_numberRead_63 : decode cX6_numberRead 63 = .ok (.bipush 48, 2) := by decide +kernel
theorem dX6_numberRead_65 : decode cX6_numberRead 65 = .ok (.isub, 1) := by decide +kernel
theorem dX6_numberRead_66 : decode cX6_numberRead 66 = .ok (.istore_n 3, 1) := by decide +kernel
theorem dX6_numberRead_67 : decode cX6_numberRead 67 = .ok (.iinc 4 1, 3) := by decide +kernel
theorem dX6_numberRead_70 : decode cX6_numberRead 70 = .ok (.goto (-43), 3) := by decide +kernel
theorem dX6_numberRead_73 : decode cX6_numberRead 73 = .ok (.aload_n 0, 1) := by decide +kernel
theorem dX6_numberRead_74 : decode cX6_numberRead 74 = .ok (.iload_n 3, 1) := by decide +kernel
theorem dX6_numberRead_75 : decode cX6_numberRead 75 = .ok (.i2l, 1) := by decide +kernel
theorem dX6_numberRead_76 : decode cX6_numberRead 76 = .ok (.iload_n 1, 1) := by decide +kernel
theorem dX6_numberRead_77 : decode cX6_numberRead 77 = .ok (.i2l, 1) := by decide +kernel
theorem dX6_numberRead_78 : decode cX6_numberRead 78 = .ok (.iload_n 2, 1) := by decide +kernel
theorem dX6_numberRead_79 : decode cX6_numberRead 79 = .ok (.i2l, 1) := by decide +kernel
theorem dX6_numberRead_80 : decode cX6_numberRead 80 = .ok (.invokestatic 54, 3) := by decide +kernel
theorem dX6_numberRead_83 : decode cX6_numberRead 83 = .ok (.invokevirtual 247, 3) := by decide +kernel
theorem dX6_numberRead_86 : decode cX6_numberRead 86 = .ok (.iload_n 3, 1) := by decide +kernel
theorem dX6_numberRead_87 : decode cX6_numberRead 87 = .ok (.ireturn, 1) := by decide +kernel
theorem dX6_kindHere_0 : decode cX6_kindHere 0 = .ok (.aload_n 0, 1) := by decide +kernel
theorem dX6_kindHere_1 : decode cX6_kindHere 1 = .ok (.ldc 251, 2) := by decide +kernel
theorem dX6_kindHere_3 : decode cX6_kindHere 3 = .ok (.invokevirtual 243, 3) := by decide +kernel
theorem dX6_kindHere_6 : decode cX6_kindHere 6 = .ok (.ifCond .eq 7, 3) := by decide +kernel
theorem dX6_kindHere_9 : decode cX6_kindHere 9 = .ok (.iconst 0, 1) := by decide +kernel
theorem dX6_kindHere_10 : decode cX6_kindHere 10 = .ok (.goto 30, 3) := by decide +kernel
theorem dX6_kindHere_13 : decode cX6_kindHere 13 = .ok (.aload_n 0, 1) := by decide +kernel
theorem dX6_kindHere_14 : decode cX6_kindHere 14 = .ok (.ldc 253, 2) := by decide +kernel
theorem dX6_kindHere_16 : decode cX6_kindHere 16 = .ok (.invokevirtual 243, 3) := by decide +kernel
theorem dX6_kindHere_19 : decode cX6_kindHere 19 = .ok (.ifCond .eq 7, 3) := by decide +kernel
theorem dX6_kindHere_22 : decode cX6_kindHere 22 = .ok (.iconst 1, 1) := by decide +kernel
theorem dX6_kindHere_23 : decode cX6_kindHere 23 = .ok (.goto 17, 3) := by decide +kernel
theorem dX6_kindHere_26 : decode cX6_kindHere 26 = .ok (.aload_n 0, 1) := by decide +kernel
theorem dX6_kindHere_27 : decode cX6_kindHere 27 = .ok (.ldc 255, 2) := by decide +kernel
theorem dX6_kindHere_29 : decode cX6_kindHere 29 = .ok (.invokevirtual 243, 3) := by decide +kernel
theorem dX6_kindHere_32 : decode cX6_kindHere 32 = .ok (.ifCond .eq 7, 3) := by decide +kernel
theorem dX6_kindHere_35 : decode cX6_kindHere 35 = .ok (.iconst 2, 1) := by decide +kernel
theorem dX6_kindHere_36 : decode cX6_kindHere 36 = .ok (.goto 4, 3) := by decide +kernel
theorem dX6_kindHere_39 : decode cX6_kindHere 39 = .ok (.iconst (-1), 1) := by decide +kernel
theorem dX6_kindHere_40 : decode cX6_kindHere 40 = .ok (.istore_n 1, 1) := by decide +kernel
theorem dX6_kindHere_41 : decode cX6_kindHere 41 = .ok (.aload_n 0, 1) := by decide +kernel
theorem dX6_kindHere_42 : decode cX6_kindHere 42 = .ok (.ldc_w 257, 3) := by decide +kernel
theorem dX6_kindHere_45 : decode cX6_kindHere 45 = .ok (.invokevirtual 243, 3) := by decide +kernel
theorem dX6_kindHere_48 : decode cX6_kindHere 48 = .ok (.ifCond .eq 7, 3) := by decide +kernel
theorem dX6_kindHere_51 : decode cX6_kindHere 51 = .ok (.iconst 3, 1) := by decide +kernel
theorem dX6_kindHere_52 : decode cX6_kindHere 52 = .ok (.goto 32, 3) := by decide +kernel
theorem dX6_kindHere_55 : decode cX6_kindHere 55 = .ok (.aload_n 0, 1) := by decide +kernel
theorem dX6_kindHere_56 : decode cX6_kindHere 56 = .ok (.ldc_w 259, 3) := by decide +kernel
theorem dX6_kindHere_59 : decode cX6_kindHere 59 = .ok (.invokevirtual 243, 3) := by decide +kernel
theorem dX6_kindHere_62 : decode cX6_kindHere 62 = .ok (.ifCond .eq 7, 3) := by decide +kernel
theorem dX6_kindHere_65 : decode cX6_kindHere 65 = .ok (.iconst 4, 1) := by decide +kernel
theorem dX6_kindHere_66 : decode cX6_kindHere 66 = .ok (.goto 18, 3) := by decide +kernel
theorem dX6_kindHere_69 : decode cX6_kindHere 69 = .ok (.aload_n 0, 1) := by decide +kernel
theorem dX6_kindHere_70 : decode cX6_kindHere 70 = .ok (.ldc_w 261, 3) := by decide +kernel
theorem dX6_kindHere_73 : decode cX6_kindHere 73 = .ok (.invokevirtual 243, 3) := by decide +kernel
theorem dX6_kindHere_76 : decode cX6_kindHere 76 = .ok (.ifCond .eq 7, 3) := by decide +kernel
theorem dX6_kindHere_79 : decode cX6_kindHere 79 = .ok (.iconst 5, 1) := by decide +kernel
theorem dX6_kindHere_80 : decode cX6_kindHere 80 = .ok (.goto 4, 3) := by decide +kernel
theorem dX6_kindHere_83 : decode cX6_kindHere 83 = .ok (.iconst (-1), 1) := by decide +kernel
theorem dX6_kindHere_84 : decode cX6_kindHere 84 = .ok (.istore_n 2, 1) := by decide +kernel
theorem dX6_kindHere_85 : decode cX6_kindHere 85 = .ok (.iload_n 1, 1) := by decide +kernel
theorem dX6_kindHere_86 : decode cX6_kindHere 86 = .ok (.ifCond .lt 7, 3) := by decide +kernel
theorem dX6_kindHere_89 : decode cX6_kindHere 89 = .ok (.iload_n 1, 1) := by decide +kernel
theorem dX6_kindHere_90 : decode cX6_kindHere 90 = .ok (.goto 27, 3) := by decide +kernel
theorem dX6_kindHere_93 : decode cX6_kindHere 93 = .ok (.iload_n 2, 1) := by decide +kernel
theorem dX6_kindHere_94 : decode cX6_kindHere 94 = .ok (.ifCond .lt 7, 3) := by decide +kernel
theorem dX6_kindHere_97 : decode cX6_kindHere 97 = .ok (.iload_n 2, 1) := by decide +kernel
theorem dX6_kindHere_98 : decode cX6_kindHere 98 = .ok (.goto 19, 3) := by decide +kernel
theorem dX6_kindHere_101 : decode cX6_kindHere 101 = .ok (.aload_n 0, 1) := by decide +kernel
theorem dX6_kindHere_102 : decode cX6_kindHere 102 = .ok (.ldc_w 263, 3) := by decide +kernel
theorem dX6_kindHere_105 : decode cX6_kindHere 105 = .ok (.invokevirtual 243, 3) := by decide +kernel
theorem dX6_kindHere_108 : decode cX6_kindHere 108 = .ok (.ifCond .eq 8, 3) := by decide +kernel
theorem dX6_kindHere_111 : decode cX6_kindHere 111 = .ok (.bipush 6, 2) := by decide +kernel
theorem dX6_kindHere_113 : decode cX6_kindHere 113 = .ok (.goto 4, 3) := by decide +kernel
theorem dX6_kindHere_116 : decode cX6_kindHere 116 = .ok (.iconst (-1), 1) := by decide +kernel
theorem dX6_kindHere_117 : decode cX6_kindHere 117 = .ok (.ireturn, 1) := by decide +kernel
theorem dX6_partTold_0 : decode cX6_partTold 0 = .ok (.aload_n 0, 1) := by decide +kernel
theorem dX6_partTold_1 : decode cX6_partTold 1 = .ok (.aload_n 2, 1) := by decide +kernel
theorem dX6_partTold_2 : decode cX6_partTold 2 = .ok (.invokevirtual 265, 3) := by decide +kernel
theorem dX6_partTold_5 : decode cX6_partTold 5 = .ok (.ifCond .eq 27, 3) := by decide +kernel
theorem dX6_partTold_8 : decode cX6_partTold 8 = .ok (.aload_n 0, 1) := by decide +kernel
theorem dX6_partTold_9 : decode cX6_partTold 9 = .ok (.iconst 0, 1) := by decide +kernel
theorem dX6_partTold_10 : decode cX6_partTold 10 = .ok (.iload 4, 2) := by decide +kernel
theorem dX6_partTold_12 : decode cX6_partTold 12 = .ok (.invokevirtual 268, 3) := by decide +kernel
theorem dX6_partTold_15 : decode cX6_partTold 15 = .ok (.istore 5, 2) := by decide +kernel
theorem dX6_partTold_17 : decode cX6_partTold 17 = .ok (.aload_n 0, 1) := by decide +kernel
theorem dX6_partTold_18 : decode cX6_partTold 18 = .ok (.getfield 227, 3) := by decide +kernel
theorem dX6_partTold_21 : decode cX6_partTold 21 = .ok (.ifCond .ne 11, 3) := by decide +kernel
theorem dX6_partTold_24 : decode cX6_partTold 24 = .ok (.aload_n 0, 1) := by decide +kernel
theorem dX6_partTold_25 : decode cX6_partTold 25 = .ok (.iload_n 1, 1) := by decide +kernel
theorem dX6_partTold_26 : decode cX6_partTold 26 = .ok (.iload_n 3, 1) := by decide +kernel
theorem dX6_partTold_27 : decode cX6_partTold 27 = .ok (.iload 5, 2) := by decide +kernel
theorem dX6_partTold_29 : decode cX6_partTold 29 = .ok (.invokevirtual 43, 3) := by decide +kernel
theorem dX6_partTold_32 : decode cX6_partTold 32 = .ok (.return_, 1) := by decide +kernel
theorem dX6_houseTold_0 : decode cX6_houseTold 0 = .ok (.aload_n 0, 1) := by decide +kernel
theorem dX6_houseTold_1 : decode cX6_houseTold 1 = .ok (.iconst 1, 1) := by decide +kernel
theorem dX6_houseTold_2 : decode cX6_houseTold 2 = .ok (.invokevirtual 247, 3) := by decide +kernel
theorem dX6_houseTold_5 : decode cX6_houseTold 5 = .ok (.aload_n 0, 1) := by decide +kernel
theorem dX6_houseTold_6 : decode cX6_houseTold 6 = .ok (.iconst 0, 1) := by decide +kernel
theorem dX6_houseTold_7 : decode cX6_houseTold 7 = .ok (.bipush 10, 2) := by decide +kernel
theorem dX6_houseTold_9 : decode cX6_houseTold 9 = .ok (.invokevirtual 268, 3) := by decide +kernel
theorem dX6_houseTold_12 : decode cX6_houseTold 12 = .ok (.istore_n 2, 1) := by decide +kernel
theorem dX6_houseTold_13 : decode cX6_houseTold 13 = .ok (.aload_n 0, 1) := by decide +kernel
theorem dX6_houseTold_14 : decode cX6_houseTold 14 = .ok (.getfield 227, 3) := by decide +kernel
theorem dX6_houseTold_17 : decode cX6_houseTold 17 = .ok (.ifCond .eq 4, 3) := by decide +kernel
theorem dX6_houseTold_20 : decode cX6_houseTold 20 = .ok (.return_, 1) := by decide +kernel
theorem dX6_houseTold_21 : decode cX6_houseTold 21 = .ok (.aload_n 0, 1) := by decide +kernel
theorem dX6_houseTold_22 : decode cX6_houseTold 22 = .ok (.iload_n 2, 1) := by decide +kernel
theorem dX6_houseTold_23 : decode cX6_houseTold 23 = .ok (.iconst 0, 1) := by decide +kernel
theorem dX6_houseTold_24 : decode cX6_houseTold 24 = .ok (.iload_n 1, 1) := by decide +kernel
theorem dX6_houseTold_25 : decode cX6_houseTold 25 = .ok (.invokevirtual 43, 3) := by decide +kernel
theorem dX6_houseTold_28 : decode cX6_houseTold 28 = .ok (.aload_n 0, 1) := by decide +kernel
theorem dX6_houseTold_29 : decode cX6_houseTold 29 = .ok (.iload_n 2, 1) := by decide +kernel
theorem dX6_houseTold_30 : decode cX6_houseTold 30 = .ok (.ldc_w 271, 3) := by decide +kernel
theorem dX6_houseTold_33 : decode cX6_houseTold 33 = .ok (.iconst 1, 1) := by decide +kernel
theorem dX6_houseTold_34 : decode cX6_houseTold 34 = .ok (.sipush 9999, 3) := by decide +kernel
theorem dX6_houseTold_37 : decode cX6_houseTold 37 = .ok (.invokevirtual 273, 3) := by decide +kernel
theorem dX6_houseTold_40 : decode cX6_houseTold 40 = .ok (.aload_n 0, 1) := by decide +kernel
theorem dX6_houseTold_41 : decode cX6_houseTold 41 = .ok (.iload_n 2, 1) := by decide +kernel
theorem dX6_houseTold_42 : decode cX6_houseTold 42 = .ok (.ldc_w 277, 3) := by decide +kernel
theorem dX6_houseTold_45 : decode cX6_houseTold 45 = .ok (.iconst 2, 1) := by decide +kernel
theorem dX6_houseTold_46 : decode cX6_houseTold 46 = .ok (.bipush 99, 2) := by decide +kernel
theorem dX6_houseTold_48 : decode cX6_houseTold 48 = .ok (.invokevirtual 273, 3) := by decide +kernel
theorem dX6_houseTold_51 : decode cX6_houseTold 51 = .ok (.aload_n 0, 1) := by decide +kernel
theorem dX6_houseTold_52 : decode cX6_houseTold 52 = .ok (.iload_n 2, 1) := by decide +kernel
theorem dX6_houseTold_53 : decode cX6_houseTold 53 = .ok (.ldc_w 279, 3) := by decide +kernel
theorem dX6_houseTold_56 : decode cX6_houseTold 56 = .ok (.iconst 3, 1) := by decide +kernel
theorem dX6_houseTold_57 : decode cX6_houseTold 57 = .ok (.sipush 999, 3) := by decide +kernel
theorem dX6_houseTold_60 : decode cX6_houseTold 60 = .ok (.invokevirtual 273, 3) := by decide +kernel
theorem dX6_houseTold_63 : decode cX6_houseTold 63 = .ok (.aload_n 0, 1) := by decide +kernel
theorem dX6_houseTold_64 : decode cX6_houseTold 64 = .ok (.ldc_w 281, 3) := by decide +kernel
theorem dX6_houseTold_67 : decode cX6_houseTold 67 = .ok (.invokevirtual 265, 3) := by decide +kernel
theorem dX6_houseTold_70 : decode cX6_houseTold 70 = .ok (.ifCond .eq 13, 3) := by decide +kernel
theorem dX6_houseTold_73 : decode cX6_houseTold 73 = .ok (.aload_n 0, 1) := by decide +kernel
theorem dX6_houseTold_74 : decode cX6_houseTold 74 = .ok (.iload_n 2, 1) := by decide +kernel
theorem dX6_houseTold_75 : decode cX6_houseTold 75 = .ok (.iconst 4, 1) := by decide +kernel
theorem dX6_houseTold_76 : decode cX6_houseTold 76 = .ok (.iconst 0, 1) := by decide +kernel
theorem dX6_houseTold_77 : decode cX6_houseTold 77 = .ok (.invokevirtual 43, 3) := by decide +kernel
theorem dX6_houseTold_80 : decode cX6_houseTold 80 = .ok (.goto 20, 3) := by decide +kernel
theorem dX6_houseTold_83 : decode cX6_houseTold 83 = .ok (.aload_n 0, 1) := by decide +kernel
theorem dX6_houseTold_84 : decode cX6_houseTold 84 = .ok (.ldc_w 283, 3) := by decide +kernel
theorem dX6_houseTold_87 : decode cX6_houseTold 87 = .ok (.invokevirtual 265, 3) := by decide +kernel
theorem dX6_houseTold_90 : decode cX6_houseTold 90 = .ok (.ifCond .eq 10, 3) := by decide +kernel
theorem dX6_houseTold_93 : decode cX6_houseTold 93 = .ok (.aload_n 0, 1) := by decide +kernel
theorem dX6_houseTold_94 : decode cX6_houseTold 94 = .ok (.iload_n 2, 1) := by decide +kernel
theorem dX6_houseTold_95 : decode cX6_houseTold 95 = .ok (.iconst 4, 1) := by decide +kernel
theorem dX6_houseTold_96 : decode cX6_houseTold 96 = .ok (.iconst 1, 1) := by decide +kernel
theorem dX6_houseTold_97 : decode cX6_houseTold 97 = .ok (.invokevirtual 43, 3) := by decide +kernel
theorem dX6_houseTold_100 : decode cX6_houseTold 100 = .ok (.return_, 1) := by decide +kernel
theorem dX6_item_0 : decode cX6_item 0 = .ok (.aload_n 0, 1) := by decide +kernel
theorem dX6_item_1 : decode cX6_item 1 = .ok (.invokevirtual 285, 3) := by decide +kernel
theorem dX6_item_4 : decode cX6_item 4 = .ok (.istore_n 1, 1) := by decide +kernel
theorem dX6_item_5 : decode cX6_item 5 = .ok (.iload_n 1, 1) := by decide +kernel
theorem dX6_item_6 : decode cX6_item 6 = .ok (.ifCond .lt 11, 3) := by decide +kernel
theorem dX6_item_9 : decode cX6_item 9 = .ok (.aload_n 0, 1) := by decide +kernel
theorem dX6_item_10 : decode cX6_item 10 = .ok (.iload_n 1, 1) := by decide +kernel
theorem dX6_item_11 : decode cX6_item 11 = .ok (.invokevirtual 288, 3) := by decide +kernel
theorem dX6_item_14 : decode cX6_item 14 = .ok (.goto 37, 3) := by decide +kernel
theorem dX6_item_17 : decode cX6_item 17 = .ok (.aload_n 0, 1) := by decide +kernel
theorem dX6_item_18 : decode cX6_item 18 = .ok (.aload_n 0, 1) := by decide +kernel
theorem dX6_item_19 : decode cX6_item 19 = .ok (.ldc_w 291, 3) := by decide +kernel
theorem dX6_item_22 : decode cX6_item 22 = .ok (.invokevirtual 243, 3) := by decide +kernel
theorem dX6_item_25 : decode cX6_item 25 = .ok (.invokevirtual 247, 3) := by decide +kernel
theorem dX6_item_28 : decode cX6_item 28 = .ok (.aload_n 0, 1) := by decide +kernel
theorem dX6_item_29 : decode cX6_item 29 = .ok (.iconst 0, 1) := by decide +kernel
theorem dX6_item_30 : decode cX6_item 30 = .ok (.sipush 999, 3) := by decide +kernel
theorem dX6_item_33 : decode cX6_item 33 = .ok (.invokevirtual 268, 3) := by decide +kernel
theorem dX6_item_36 : decode cX6_item 36 = .ok (.istore_n 2, 1) := by decide +kernel
theorem dX6_item_37 : decode cX6_item 37 = .ok (.aload_n 0, 1) := by decide +kernel
theorem dX6_item_38 : decode cX6_item 38 = .ok (.getfield 227, 3) := by decide +kernel
theorem dX6_item_41 : decode cX6_item 41 = .ok (.ifCond .ne 10, 3) := by decide +kernel
theorem dX6_item_44 : decode cX6_item 44 = .ok (.aload_n 0, 1) := by decide +kernel
theorem dX6_item_45 : decode cX6_item 45 = .ok (.getfield 9, 3) := by decide +kernel
theorem dX6_item_48 : decode cX6_item 48 = .ok (.iconst 2, 1) := by decide +kernel
theorem dX6_item_49 : decode cX6_item 49 = .ok (.iload_n 2, 1) := by decide +kernel
theorem dX6_item_50 : decode cX6_item 50 = .ok (.iastore, 1) := by decide +kernel
theorem dX6_item_51 : decode cX6_item 51 = .ok (.return_, 1) := by decide +kernel
theorem dX6_text_0 : decode cX6_text 0 = .ok (.aload_n 0, 1) := by decide +kernel
theorem dX6_text_1 : decode cX6_text 1 = .ok (.invokevirtual 160, 3) := by decide +kernel
theorem dX6_text_4 : decode cX6_text 4 = .ok (.aload_n 0, 1) := by decide +kernel
theorem dX6_text_5 : decode cX6_text 5 = .ok (.iconst 0, 1) := by decide +kernel
theorem dX6_text_6 : decode cX6_text 6 = .ok (.putfield 227, 3) := by decide +kernel
theorem dX6_text_9 : decode cX6_text 9 = .ok (.aload_n 0, 1) := by decide +kernel
theorem dX6_text_10 : decode cX6_text 10 = .ok (.iconst 0, 1) := by decide +kernel
theorem dX6_text_11 : decode cX6_text 11 = .ok (.putfield 217, 3) := by decide +kernel
theorem dX6_text_14 : decode cX6_text 14 = .ok (.aload_n 0, 1) := by decide +kernel
theorem dX6_text_15 : decode cX6_text 15 = .ok (.invokevirtual 240, 3) := by decide +kernel
theorem dX6_text_18 : decode cX6_text 18 = .ok (.aload_n 0, 1) := by decide +kernel
theorem dX6_text_19 : decode cX6_text 19 = .ok (.invokevirtual 293, 3) := by decide +kernel
theorem dX6_text_22 : decode cX6_text 22 = .ok (.iconst 1, 1) := by decide +kernel
theorem dX6_text_23 : decode cX6_text 23 = .ok (.istore_n 1, 1) := by decide +kernel
theorem dX6_text_24 : decode cX6_text 24 = .ok (.aload_n 0, 1) := by decide +kernel
theorem dX6_text_25 : decode cX6_text 25 = .ok (.getfield 227, 3) := by decide +kernel
theorem dX6_text_28 : decode cX6_text 28 = .ok (.ifCond .ne 35, 3) := by decide +kernel
theorem dX6_text_31 : decode cX6_text 31 = .ok (.aload_n 0, 1) := by decide +kernel
theorem dX6_text_32 : decode cX6_text 32 = .ok (.getfield 220, 3) := by decide +kernel
theorem dX6_text_35 : decode cX6_text 35 = .ok (.aload_n 0, 1) := by decide +kernel
theorem dX6_text_36 : decode cX6_text 36 = .ok (.getfield 214, 3) := by decide +kernel
theorem dX6_text_39 : decode cX6_text 39 = .ok (.if_icmp .ge 24, 3) := by decide +kernel
theorem dX6_text_42 : decode cX6_text 42 = .ok (.aload_n 0, 1) := by decide +kernel
theorem dX6_text_43 : decode cX6_text 43 = .ok (.aload_n 0, 1) := by decide +kernel
theorem dX6_text_44 : decode cX6_text 44 = .ok (.ldc_w 296, 3) := by decide +kernel
theorem dX6_text_47 : decode cX6_text 47 = .ok (.invokevirtual 243, 3) := by decide +kernel
theorem dX6_text_50 : decode cX6_text 50 = .ok (.invokevirtual 247, 3) := by decide +kernel
theorem dX6_text_53 : decode cX6_text 53 = .ok (.aload_n 0, 1) := by decide +kernel
theorem dX6_text_54 : decode cX6_text 54 = .ok (.invokevirtual 293, 3) := by decide +kernel
theorem dX6_text_57 : decode cX6_text 57 = .ok (.iinc 1 1, 3) := by decide +kernel
theorem dX6_text_60 : decode cX6_text 60 = .ok (.goto (-36), 3) := by decide +kernel
theorem dX6_text_63 : decode cX6_text 63 = .ok (.aload_n 0, 1) := by decide +kernel
theorem dX6_text_64 : decode cX6_text 64 = .ok (.iconst 0, 1) := by decide +kernel
theorem dX6_text_65 : decode cX6_text 65 = .ok (.putfield 214, 3) := by decide +kernel
theorem dX6_text_68 : decode cX6_text 68 = .ok (.aload_n 0, 1) := by decide +kernel
theorem dX6_text_69 : decode cX6_text 69 = .ok (.getfield 227, 3) := by decide +kernel
theorem dX6_text_72 : decode cX6_text 72 = .ok (.ifCond .eq 14, 3) := by decide +kernel
theorem dX6_text_75 : decode cX6_text 75 = .ok (.aload_n 0, 1) := by decide +kernel
theorem dX6_text_76 : decode cX6_text 76 = .ok (.invokevirtual 163, 3) := by decide +kernel
theorem dX6_text_79 : decode cX6_text 79 = .ok (.iconst (-1), 1) := by decide +kernel
theorem dX6_text_80 : decode cX6_text 80 = .ok (.aload_n 0, 1) := by decide +kernel
theorem dX6_text_81 : decode cX6_text 81 = .ok (.getfield 220, 3) := by decide +kernel
theorem dX6_text_84 : decode cX6_text 84 = .ok (.isub, 1) := by decide +kernel
theorem dX6_text_85 : decode cX6_text 85 = .ok (.ireturn, 1) := by decide +kernel
theorem dX6_text_86 : decode cX6_text 86 = .ok (.iload_n 1, 1) := by decide +kernel
theorem dX6_text_87 : decode cX6_text 87 = .ok (.ireturn, 1) := by decide +kernel
theorem dX6_isSpot_0 : decode cX6_isSpot 0 = .ok (.iload_n 0, 1) := by decide +kernel
theorem dX6_isSpot_1 : decode cX6_isSpot 1 = .ok (.i2l, 1) := by decide +kernel
theorem dX6_isSpot_2 : decode cX6_isSpot 2 = .ok (.lconst 0, 1) := by decide +kernel
theorem dX6_isSpot_3 : decode cX6_isSpot 3 = .ok (.ldc2_w 99, 3) := by decide +kernel
theorem dX6_isSpot_6 : decode cX6_isSpot 6 = .ok (.invokestatic 54, 3) := by decide +kernel
theorem dX6_isSpot_9 : decode cX6_isSpot 9 = .ok (.ireturn, 1) := by decide +kernel
theorem dX6_hold_0 : decode cX6_hold 0 = .ok (.iload_n 1, 1) := by decide +kernel
theorem dX6_hold_1 : decode cX6_hold 1 = .ok (.invokestatic 298, 3) := by decide +kernel
theorem dX6_hold_4 : decode cX6_hold 4 = .ok (.ifCond .eq 15, 3) := by decide +kernel
theorem dX6_hold_7 : decode cX6_hold 7 = .ok (.iload_n 2, 1) := by decide +kernel
theorem dX6_hold_8 : decode cX6_hold 8 = .ok (.iconst (-1), 1) := by decide +kernel
theorem dX6_hold_9 : decode cX6_hold 9 = .ok (.if_icmp .eq 16, 3) := by decide +kernel
theorem dX6_hold_12 : decode cX6_hold 12 = .ok (.iload_n 2, 1) := by decide +kernel
theorem dX6_hold_13 : decode cX6_hold 13 = .ok (.invokestatic 87, 3) := by decide +kernel
theorem dX6_hold_16 : decode cX6_hold 16 = .ok (.ifCond .ne 9, 3) := by decide +kernel
theorem dX6_hold_19 : decode cX6_hold 19 = .ok (.aload_n 0, 1) := by decide +kernel
theorem dX6_hold_20 : decode cX6_hold 20 = .ok (.iconst 0, 1) := by decide +kernel
theorem dX6_hold_21 : decode cX6_hold 21 = .ok (.invokevirtual 96, 3) := by decide +kernel
theorem dX6_hold_24 : decode cX6_hold 24 = .ok (.ireturn, 1) := by decide +kernel
theorem dX6_hold_25 : decode cX6_hold 25 = .ok (.aload_n 0, 1) := by decide +kernel
theorem dX6_hold_26 : decode cX6_hold 26 = .ok (.getfield 9, 3) := by decide +kernel
theorem dX6_hold_29 : decode cX6_hold 29 = .ok (.bipush 71, 2) := by decide +kernel
theorem dX6_hold_31 : decode cX6_hold 31 = .ok (.iload_n 1, 1) := by decide +kernel
theorem dX6_hold_32 : decode cX6_hold 32 = .ok (.iadd, 1) := by decide +kernel
theorem dX6_hold_33 : decode cX6_hold 33 = .ok (.iload_n 2, 1) := by decide +kernel
theorem dX6_hold_34 : decode cX6_hold 34 = .ok (.iastore, 1) := by decide +kernel
theorem dX6_hold_35 : decode cX6_hold 35 = .ok (.iconst 1, 1) := by decide +kernel
theorem dX6_hold_36 : decode cX6_hold 36 = .ok (.ireturn, 1) := by decide +kernel
theorem dX6_as_0 : decode cX6_as 0 = .ok (.iload_n 1, 1) := by decide +kernel
theorem dX6_as_1 : decode cX6_as 1 = .ok (.invokestatic 298, 3) := by decide +kernel
theorem dX6_as_4 : decode cX6_as 4 = .ok (.ifCond .eq 10, 3) := by decide +kernel
theorem dX6_as_7 : decode cX6_as 7 = .ok (.iload_n 2, 1) := by decide +kernel
theorem dX6_as_8 : decode cX6_as 8 = .ok (.invokestatic 77, 3) := by decide +kernel
theorem dX6_as_11 : decode cX6_as 11 = .ok (.ifCond .ne 9, 3) := by decide +kernel
theorem dX6_as_14 : decode cX6_as 14 = .ok (.aload_n 0, 1) := by decide +kernel
theorem dX6_as_15 : decode cX6_as 15 = .ok (.iconst 0, 1) := by decide +kernel
theorem dX6_as_16 : decode cX6_as 16 = .ok (.invokevirtual 96, 3) := by decide +kernel
theorem dX6_as_19 : decode cX6_as 19 = .ok (.ireturn, 1) := by decide +kernel
theorem dX6_as_20 : decode cX6_as 20 = .ok (.aload_n 0, 1) := by decide +kernel
theorem dX6_as_21 : decode cX6_as 21 = .ok (.getfield 9, 3) := by decide +kernel
theorem dX6_as_24 : decode cX6_as 24 = .ok (.bipush 71, 2) := by decide +kernel
theorem dX6_as_26 : decode cX6_as 26 = .ok (.iload_n 1, 1) := by decide +kernel
theorem dX6_as_27 : decode cX6_as 27 = .ok (.iadd, 1) := by decide +kernel
theorem dX6_as_28 : decode cX6_as 28 = .ok (.iaload, 1) := by decide +kernel
theorem dX6_as_29 : decode cX6_as 29 = .ok (.istore_n 3, 1) := by decide +kernel
theorem dX6_as_30 : decode cX6_as 30 = .ok (.iload_n 3, 1) := by decide +kernel
theorem dX6_as_31 : decode cX6_as 31 = .ok (.ifCond .ge 9, 3) := by decide +kernel
theorem dX6_as_34 : decode cX6_as 34 = .ok (.aload_n 0, 1) := by decide +kernel
theorem dX6_as_35 : decode cX6_as 35 = .ok (.iconst 5, 1) := by decide +kernel
theorem dX6_as_36 : decode cX6_as 36 = .ok (.invokevirtual 96, 3) := by decide +kernel
theorem dX6_as_39 : decode cX6_as 39 = .ok (.ireturn, 1) := by decide +kernel
theorem dX6_as_40 : decode cX6_as 40 = .ok (.aload_n 0, 1) := by decide +kernel
theorem dX6_as_41 : decode cX6_as 41 = .ok (.iload_n 3, 1) := by decide +kernel
theorem dX6_as_42 : decode cX6_as 42 = .ok (.iconst 0, 1) := by decide +kernel
theorem dX6_as_43 : decode cX6_as 43 = .ok (.invokevirtual 64, 3) := by decide +kernel
theorem dX6_as_46 : decode cX6_as 46 = .ok (.iload_n 2, 1) := by decide +kernel
theorem dX6_as_47 : decode cX6_as 47 = .ok (.invokestatic 73, 3) := by decide +kernel
theorem dX6_as_50 : decode cX6_as 50 = .ok (.ifCond .eq 7, 3) := by decide +kernel
theorem dX6_as_53 : decode cX6_as 53 = .ok (.iload_n 3, 1) := by decide +kernel
theorem dX6_as_54 : decode cX6_as 54 = .ok (.goto 8, 3) := by decide +kernel
theorem dX6_as_57 : decode cX6_as 57 = .ok (.aload_n 0, 1) := by decide +kernel
theorem dX6_as_58 : decode cX6_as 58 = .ok (.iconst 2, 1) := by decide +kernel
theorem dX6_as_59 : decode cX6_as 59 = .ok (.invokevirtual 96, 3) := by decide +kernel
theorem dX6_as_62 : decode cX6_as 62 = .ok (.ireturn, 1) := by decide +kernel
theorem dX6_isSheet_0 : decode cX6_isSheet 0 = .ok (.iload_n 0, 1) := by decide +kernel
theorem dX6_isSheet_1 : decode cX6_isSheet 1 = .ok (.i2l, 1) := by decide +kernel
theorem dX6_isSheet_2 : decode cX6_isSheet 2 = .ok (.lconst 0, 1) := by decide +kernel
theorem dX6_isSheet_3 : decode cX6_isSheet 3 = .ok (.ldc2_w 301, 3) := by decide +kernel
theorem dX6_isSheet_6 : decode cX6_isSheet 6 = .ok (.invokestatic 54, 3) := by decide +kernel
theorem dX6_isSheet_9 : decode cX6_isSheet 9 = .ok (.ireturn, 1) := by decide +kernel
theorem dX6_sheet_0 : decode cX6_sheet 0 = .ok (.iload_n 2, 1) := by decide +kernel
theorem dX6_sheet_1 : decode cX6_sheet 1 = .ok (.ifCond .eq 21, 3) := by decide +kernel
theorem dX6_sheet_4 : decode cX6_sheet 4 = .ok (.iload_n 2, 1) := by decide +kernel
theorem dX6_sheet_5 : decode cX6_sheet 5 = .ok (.bipush 8, 2) := by decide +kernel
theorem dX6_sheet_7 : decode cX6_sheet 7 = .ok (.if_icmp .eq 15, 3) := by decide +kernel
theorem dX6_sheet_10 : decode cX6_sheet 10 = .ok (.iload_n 2, 1) := by decide +kernel
theorem dX6_sheet_11 : decode cX6_sheet 11 = .ok (.bipush 16, 2) := by decide +kernel
theorem dX6_sheet_13 : decode cX6_sheet 13 = .ok (.if_icmp .eq 9, 3) := by decide +kernel
theorem dX6_sheet_16 : decode cX6_sheet 16 = .ok (.iload_n 2, 1) := by decide +kernel
theorem dX6_sheet_17 : decode cX6_sheet 17 = .ok (.bipush 32, 2) := by decide +kernel
theorem dX6_sheet_19 : decode cX6_sheet 19 = .ok (.if_icmp .ne 7, 3) := by decide +kernel
theorem dX6_sheet_22 : decode cX6_sheet 22 = .ok (.iconst 1, 1) := by decide +kernel
theorem dX6_sheet_23 : decode cX6_sheet 23 = .ok (.goto 4, 3) := by decide +kernel
theorem dX6_sheet_26 : decode cX6_sheet 26 = .ok (.iconst 0, 1) := by decide +kernel
theorem dX6_sheet_27 : decode cX6_sheet 27 = .ok (.istore 4, 2) := by decide +kernel
theorem dX6_sheet_29 : decode cX6_sheet 29 = .ok (.iload_n 1, 1) := by decide +kernel
theorem dX6_sheet_30 : decode cX6_sheet 30 = .ok (.invokestatic 303, 3) := by decide +kernel
theorem dX6_sheet_33 : decode cX6_sheet 33 = .ok (.ifCond .eq 8, 3) := by decide +kernel
theorem dX6_sheet_36 : decode cX6_sheet 36 = .ok (.iload 4, 2) := by decide +kernel
theorem dX6_sheet_38 : decode cX6_sheet 38 = .ok (.ifCond .ne 9, 3) := by decide +kernel
theorem dX6_sheet_41 : decode cX6_sheet 41 = .ok (.aload_n 0, 1) := by decide +kernel
theorem dX6_sheet_42 : decode cX6_sheet 42 = .ok (.iconst 0, 1) := by decide +kernel
theorem dX6_sheet_43 : decode cX6_sheet 43 = .ok (.invokevirtual 96, 3) := by decide +kernel
theorem dX6_sheet_46 : decode cX6_sheet 46 = .ok (.ireturn, 1) := by decide +kernel
theorem dX6_sheet_47 : decode cX6_sheet 47 = .ok (.iload_n 3, 1) := by decide +kernel
theorem dX6_sheet_48 : decode cX6_sheet 48 = .ok (.ifCond .ge 10, 3) := by decide +kernel
theorem dX6_sheet_51 : decode cX6_sheet 51 = .ok (.aload_n 0, 1) := by decide +kernel
theorem dX6_sheet_52 : decode cX6_sheet 52 = .ok (.bipush 6, 2) := by decide +kernel
theorem dX6_sheet_54 : decode cX6_sheet 54 = .ok (.invokevirtual 96, 3) := by decide +kernel
theorem dX6_sheet_57 : decode cX6_sheet 57 = .ok (.ireturn, 1) := by decide +kernel
theorem dX6_sheet_58 : decode cX6_sheet 58 = .ok (.iload_n 3, 1) := by decide +kernel
theorem dX6_sheet_59 : decode cX6_sheet 59 = .ok (.bipush 40, 2) := by decide +kernel
theorem dX6_sheet_61 : decode cX6_sheet 61 = .ok (.if_icmp .le 9, 3) := by decide +kernel
theorem dX6_sheet_64 : decode cX6_sheet 64 = .ok (.aload_n 0, 1) := by decide +kernel
theorem dX6_sheet_65 : decode cX6_sheet 65 = .ok (.iconst 0, 1) := by decide +kernel
theorem dX6_sheet_66 : decode cX6_sheet 66 = .ok (.invokevirtual 96, 3) := by decide +kernel
theorem dX6_sheet_69 : decode cX6_sheet 69 = .ok (.ireturn, 1) := by decide +kernel
theorem dX6_sheet_70 : decode cX6_sheet 70 = .ok (.aload_n 0, 1) := by decide +kernel
theorem dX6_sheet_71 : decode cX6_sheet 71 = .ok (.getfield 31, 3) := by decide +kernel
theorem dX6_sheet_74 : decode cX6_sheet 74 = .ok (.iload_n 1, 1) := by decide +kernel
theorem dX6_sheet_75 : decode cX6_sheet 75 = .ok (.iload_n 2, 1) := by decide +kernel
theorem dX6_sheet_76 : decode cX6_sheet 76 = .ok (.iastore, 1) := by decide +kernel
theorem dX6_sheet_77 : decode cX6_sheet 77 = .ok (.aload_n 0, 1) := by decide +kernel
theorem dX6_sheet_78 : decode cX6_sheet 78 = .ok (.getfield 34, 3) := by decide +kernel
theorem dX6_sheet_81 : decode cX6_sheet 81 = .ok (.iload_n 1, 1) := by decide +kernel
theorem dX6_sheet_82 : decode cX6_sheet 82 = .ok (.iload_n 2, 1) := by decide +kernel
theorem dX6_sheet_83 : decode cX6_sheet 83 = .ok (.ifCond .ne 7, 3) := by decide +kernel
theorem dX6_sheet_86 : decode cX6_sheet 86 = .ok (.iconst 0, 1) := by decide +kernel
theorem dX6_sheet_87 : decode cX6_sheet 87 = .ok (.goto 4, 3) := by decide +kernel
theorem dX6_sheet_90 : decode cX6_sheet 90 = .ok (.iload_n 3, 1) := by decide +kernel
theorem dX6_sheet_91 : decode cX6_sheet 91 = .ok (.iastore, 1) := by decide +kernel
theorem dX6_sheet_92 : decode cX6_sheet 92 = .ok (.iconst 0, 1) := by decide +kernel
theorem dX6_sheet_93 : decode cX6_sheet 93 = .ok (.istore 5, 2) := by decide +kernel
theorem dX6_sheet_95 : decode cX6_sheet 95 = .ok (.iload 5, 2) := by decide +kernel
theorem dX6_sheet_97 : decode cX6_sheet 97 = .ok (.bipush 40, 2) := by decide +kernel
theorem dX6_sheet_99 : decode cX6_sheet 99 = .ok (.if_icmp .ge 22, 3) := by decide +kernel
theorem dX6_sheet_102 : decode cX6_sheet 102 = .ok (.aload_n 0, 1) := by decide +kernel
theorem dX6_sheet_103 : decode cX6_sheet 103 = .ok (.getfield 37, 3) := by decide +kernel
theorem dX6_sheet_106 : decode cX6_sheet 106 = .ok (.bipush 40, 2) := by decide +kernel
theorem dX6_sheet_108 : decode cX6_sheet 108 = .ok (.iload_n 1, 1) := by decide +kernel
theorem dX6_sheet_109 : decode cX6_sheet 109 = .ok (.imul, 1) := by decide +kernel
theorem dX6_sheet_110 : decode cX6_sheet 110 = .ok (.iload 5, 2) := by decide +kernel
theorem dX6_sheet_112 : decode cX6_sheet 112 = .ok (.iadd, 1) := by decide +kernel
theorem dX6_sheet_113 : decode cX6_sheet 113 = .ok (.iconst 0, 1) := by decide +kernel
theorem dX6_sheet_114 : decode cX6_sheet 114 = .ok (.iastore, 1) := by decide +kernel
theorem dX6_sheet_115 : decode cX6_sheet 115 = .ok (.iinc 5 1, 3) := by decide +kernel
theorem dX6_sheet_118 : decode cX6_sheet 118 = .ok (.goto (-23), 3) := by decide +kernel
theorem dX6_sheet_121 : decode cX6_sheet 121 = .ok (.aload_n 0, 1) := by decide +kernel
theorem dX6_sheet_122 : decode cX6_sheet 122 = .ok (.getfield 34, 3) := by decide +kernel
theorem dX6_sheet_125 : decode cX6_sheet 125 = .ok (.iload_n 1, 1) := by decide +kernel
theorem dX6_sheet_126 : decode cX6_sheet 126 = .ok (.iaload, 1) := by decide +kernel
theorem dX6_sheet_127 : decode cX6_sheet 127 = .ok (.ireturn, 1) := by decide +kernel
theorem dX6_lacks_0 : decode cX6_lacks 0 = .ok (.iload_n 1, 1) := by decide +kernel
theorem dX6_lacks_1 : decode cX6_lacks 1 = .ok (.invokestatic 303, 3) := by decide +kernel
theorem dX6_lacks_4 : decode cX6_lacks 4 = .ok (.ifCond .ne 7, 3) := by decide +kernel
theorem dX6_lacks_7 : decode cX6_lacks 7 = .ok (.iconst 0, 1) := by decide +kernel
theorem dX6_lacks_8 : decode cX6_lacks 8 = .ok (.goto 17, 3) := by decide +kernel
theorem dX6_lacks_11 : decode cX6_lacks 11 = .ok (.aload_n 0, 1) := by decide +kernel
theorem dX6_lacks_12 : decode cX6_lacks 12 = .ok (.getfield 31, 3) := by decide +kernel
theorem dX6_lacks_15 : decode cX6_lacks 15 = .ok (.iload_n 1, 1) := by decide +kernel
theorem dX6_lacks_16 : decode cX6_lacks 16 = .ok (.iaload, 1) := by decide +kernel
theorem dX6_lacks_17 : decode cX6_lacks 17 = .ok (.ifCond .ne 7, 3) := by decide +kernel
theorem dX6_lacks_20 : decode cX6_lacks 20 = .ok (.iconst 5, 1) := by decide +kernel
theorem dX6_lacks_21 : decode cX6_lacks 21 = .ok (.goto 4, 3) := by decide +kernel
theorem dX6_lacks_24 : decode cX6_lacks 24 = .ok (.iconst (-1), 1) := by decide +kernel
theorem dX6_lacks_25 : decode cX6_lacks 25 = .ok (.ireturn, 1) := by decide +kernel
theorem dX6_write_0 : decode cX6_write 0 = .ok (.aload_n 0, 1) := by decide +kernel
theorem dX6_write_1 : decode cX6_write 1 = .ok (.iload_n 1, 1) := by decide +kernel
theorem dX6_write_2 : decode cX6_write 2 = .ok (.invokevirtual 197, 3) := by decide +kernel
theorem dX6_write_5 : decode cX6_write 5 = .ok (.istore 4, 2) := by decide +kernel
theorem dX6_write_7 : decode cX6_write 7 = .ok (.iload 4, 2) := by decide +kernel
theorem dX6_write_9 : decode cX6_write 9 = .ok (.ifCond .lt 10, 3) := by decide +kernel
theorem dX6_write_12 : decode cX6_write 12 = .ok (.aload_n 0, 1) := by decide +kernel
theorem dX6_write_13 : decode cX6_write 13 = .ok (.iload 4, 2) := by decide +kernel
theorem dX6_write_15 : decode cX6_write 15 = .ok (.invokevirtual 96, 3) := by decide +kernel
theorem dX6_write_18 : decode cX6_write 18 = .ok (.ireturn, 1) := by decide +kernel
theorem dX6_write_19 : decode cX6_write 19 = .ok (.iload_n 2, 1) := by decide +kernel
theorem dX6_write_20 : decode cX6_write 20 = .ok (.i2l, 1) := by decide +kernel
theorem dX6_write_21 : decode cX6_write 21 = .ok (.lconst 0, 1) := by decide +kernel
theorem dX6_write_22 : decode cX6_write 22 = .ok (.aload_n 0, 1) := by decide +kernel
theorem dX6_write_23 : decode cX6_write 23 = .ok (.getfield 34, 3) := by decide +kernel
theorem dX6_write_26 : decode cX6_write 26 = .ok (.iload_n 1, 1) := by decide +kernel
theorem dX6_write_27 : decode cX6_write 27 = .ok (.iaload, 1) := by decide +kernel
theorem dX6_write_28 : decode cX6_write 28 = .ok (.iconst 1, 1) := by decide +kernel
theorem dX6_write_29 : decode cX6_write 29 = .ok (.isub, 1) := by decide +kernel
theorem dX6_write_30 : decode cX6_write 30 = .ok (.i2l, 1) := by decide +kernel
theorem dX6_write_31 : decode cX6_write 31 = .ok (.invokestatic 54, 3) := by decide +kernel
theorem dX6_write_34 : decode cX6_write 34 = .ok (.ifCond .ne 9, 3) := by decide +kernel
theorem dX6_write_37 : decode cX6_write 37 = .ok (.aload_n 0, 1) := by decide +kernel
theorem dX6_write_38 : decode cX6_write 38 = .ok (.iconst 0, 1) := by decide +kernel
theorem dX6_write_39 : decode cX6_write 39 = .ok (.invokevirtual 96, 3) := by decide +kernel
theorem dX6_write_42 : decode cX6_write 42 = .ok (.ireturn, 1) := by decide +kernel
theorem dX6_write_43 : decode cX6_write 43 = .ok (.aload_n 0, 1) := by decide +kernel
theorem dX6_write_44 : decode cX6_write 44 = .ok (.getfield 37, 3) := by decide +kernel
theorem dX6_write_47 : decode cX6_write 47 = .ok (.bipush 40, 2) := by decide +kernel
theorem dX6_write_49 : decode cX6_write 49 = .ok (.iload_n 1, 1) := by decide +kernel
theorem dX6_write_50 : decode cX6_write 50 = .ok (.imul, 1) := by decide +kernel
theorem dX6_write_51 : decode cX6_write 51 = .ok (.iload_n 2, 1) := by decide +kernel
theorem dX6_write_52 : decode cX6_write 52 = .ok (.iadd, 1) := by decide +kernel
theorem dX6_write_53 : decode cX6_write 53 = .ok (.aload_n 0, 1) := by decide +kernel
theorem dX6_write_54 : decode cX6_write 54 = .ok (.getfield 31, 3) := by decide +kernel
theorem dX6_write_57 : decode cX6_write 57 = .ok (.iload_n 1, 1) := by decide +kernel
theorem dX6_write_58 : decode cX6_write 58 = .ok (.iaload, 1) := by decide +kernel
theorem dX6_write_59 : decode cX6_write 59 = .ok (.bipush 8, 2) := by decide +kernel
theorem dX6_write_61 : decode cX6_write 61 = .ok (.if_icmp .ne 8, 3) := by decide +kernel
theorem dX6_write_64 : decode cX6_write 64 = .ok (.iload_n 3, 1) := by decide +kernel
theorem dX6_write_65 : decode cX6_write 65 = .ok (.i2b, 1) := by decide +kernel
theorem dX6_write_66 : decode cX6_write 66 = .ok (.goto 20, 3) := by decide +kernel
theorem dX6_write_69 : decode cX6_write 69 = .ok (.aload_n 0, 1) := by decide +kernel
theorem dX6_write_70 : decode cX6_write 70 = .ok (.getfield 31, 3) := by decide +kernel
theorem dX6_write_73 : decode cX6_write 73 = .ok (.iload_n 1, 1) := by decide +kernel
theorem dX6_write_74 : decode cX6_write 74 = .ok (.iaload, 1) := by decide +kernel
theorem dX6_write_75 : decode cX6_write 75 = .ok (.bipush 16, 2) := by decide +kernel
theorem dX6_write_77 : decode cX6_write 77 = .ok (.if_icmp .ne 8, 3) := by decide +kernel
theorem dX6_write_80 : decode cX6_write 80 = .ok (.iload_n 3, 1) := by decide +kernel
theorem dX6_write_81 : decode cX6_write 81 = .ok (.i2s, 1) := by decide +kernel
theorem dX6_write_82 : decode cX6_write 82 = .ok (.goto 4, 3) := by decide +kernel
theorem dX6_write_85 : decode cX6_write 85 = .ok (.iload_n 3, 1) := by decide +kernel
theorem dX6_write_86 : decode cX6_write 86 = .ok (.iastore, 1) := by decide +kernel
theorem dX6_write_87 : decode cX6_write 87 = .ok (.iconst 1, 1) := by decide +kernel
theorem dX6_write_88 : decode cX6_write 88 = .ok (.ireturn, 1) := by decide +kernel
theorem dX6_copy_0 : decode cX6_copy 0 = .ok (.iload_n 1, 1) := by decide +kernel
theorem dX6_copy_1 : decode cX6_copy 1 = .ok (.invokestatic 303, 3) := by decide +kernel
theorem dX6_copy_4 : decode cX6_copy 4 = .ok (.ifCond .eq 10, 3) := by decide +kernel
theorem dX6_copy_7 : decode cX6_copy 7 = .ok (.iload_n 3, 1) := by decide +kernel
theorem dX6_copy_8 : decode cX6_copy 8 = .ok (.invokestatic 303, 3) := by decide +kernel
theorem dX6_copy_11 : decode cX6_copy 11 = .ok (.ifCond .ne 9, 3) := by decide +kernel
theorem dX6_copy_14 : decode cX6_copy 14 = .ok (.aload_n 0, 1) := by decide +kernel
theorem dX6_copy_15 : decode cX6_copy 15 = .ok (.iconst 0, 1) := by decide +kernel
theorem dX6_copy_16 : decode cX6_copy 16 = .ok (.invokevirtual 96, 3) := by decide +kernel
theorem dX6_copy_19 : decode cX6_copy 19 = .ok (.ireturn, 1) := by decide +kernel
theorem dX6_copy_20 : decode cX6_copy 20 = .ok (.aload_n 0, 1) := by decide +kernel
theorem dX6_copy_21 : decode cX6_copy 21 = .ok (.getfield 31, 3) := by decide +kernel
theorem dX6_copy_24 : decode cX6_copy 24 = .ok (.iload_n 1, 1) := by decide +kernel
theorem dX6_copy_25 : decode cX6_copy 25 = .ok (.iaload, 1) := by decide +kernel
theorem dX6_copy_26 : decode cX6_copy 26 = .ok (.ifCond .eq 12, 3) := by decide +kernel
theorem dX6_copy_29 : decode cX6_copy 29 = .ok (.aload_n 0, 1) := by decide +kernel
theorem dX6_copy_30 : decode cX6_copy 30 = .ok (.getfield 31, 3) := by decide +kernel
theorem dX6_copy_33 : decode cX6_copy 33 = .ok (.iload_n 3, 1) := by decide +kernel
theorem dX6_copy_34 : decode cX6_copy 34 = .ok (.iaload, 1) := by decide +kernel
theorem dX6_copy_35 : decode cX6_copy 35 = .ok (.ifCond .ne 9, 3) := by decide +kernel
theorem dX6_copy_38 : decode cX6_copy 38 = .ok (.aload_n 0, 1) := by decide +kernel
theorem dX6_copy_39 : decode cX6_copy 39 = .ok (.iconst 5, 1) := by decide +kernel
theorem dX6_copy_40 : decode cX6_copy 40 = .ok (.invokevirtual 96, 3) := by decide +kernel
theorem dX6_copy_43 : decode cX6_copy 43 = .ok (.ireturn, 1) := by decide +kernel
theorem dX6_copy_44 : decode cX6_copy 44 = .ok (.aload_n 0, 1) := by decide +kernel
theorem dX6_copy_45 : decode cX6_copy 45 = .ok (.getfield 31, 3) := by decide +kernel
theorem dX6_copy_48 : decode cX6_copy 48 = .ok (.iload_n 1, 1) := by decide +kernel
theorem dX6_copy_49 : decode cX6_copy 49 = .ok (.iaload, 1) := by decide +kernel
theorem dX6_copy_50 : decode cX6_copy 50 = .ok (.aload_n 0, 1) := by decide +kernel
theorem dX6_copy_51 : decode cX6_copy 51 = .ok (.getfield 31, 3) := by decide +kernel
theorem dX6_copy_54 : decode cX6_copy 54 = .ok (.iload_n 3, 1) := by decide +kernel
theorem dX6_copy_55 : decode cX6_copy 55 = .ok (.iaload, 1) := by decide +kernel
theorem dX6_copy_56 : decode cX6_copy 56 = .ok (.if_icmp .eq 9, 3) := by decide +kernel
theorem dX6_copy_59 : decode cX6_copy 59 = .ok (.aload_n 0, 1) := by decide +kernel
theorem dX6_copy_60 : decode cX6_copy 60 = .ok (.iconst 2, 1) := by decide +kernel
theorem dX6_copy_61 : decode cX6_copy 61 = .ok (.invokevirtual 96, 3) := by decide +kernel
theorem dX6_copy_64 : decode cX6_copy 64 = .ok (.ireturn, 1) := by decide +kernel
theorem dX6_copy_65 : decode cX6_copy 65 = .ok (.iload 5, 2) := by decide +kernel
theorem dX6_copy_67 : decode cX6_copy 67 = .ok (.ifCond .lt 51, 3) := by decide +kernel
theorem dX6_copy_70 : decode cX6_copy 70 = .ok (.iload_n 2, 1) := by decide +kernel
theorem dX6_copy_71 : decode cX6_copy 71 = .ok (.ifCond .lt 47, 3) := by decide +kernel
theorem dX6_copy_74 : decode cX6_copy 74 = .ok (.iload 4, 2) := by decide +kernel
theorem dX6_copy_76 : decode cX6_copy 76 = .ok (.ifCond .lt 42, 3) := by decide +kernel
theorem dX6_copy_79 : decode cX6_copy 79 = .ok (.iload_n 2, 1) := by decide +kernel
theorem dX6_copy_80 : decode cX6_copy 80 = .ok (.i2l, 1) := by decide +kernel
theorem dX6_copy_81 : decode cX6_copy 81 = .ok (.iload 5, 2) := by decide +kernel
theorem dX6_copy_83 : decode cX6_copy 83 = .ok (.i2l, 1) := by decide +kernel
theorem dX6_copy_84 : decode cX6_copy 84 = .ok (.ladd, 1) := by decide +kernel
theorem dX6_copy_85 : decode cX6_copy 85 = .ok (.aload_n 0, 1) := by decide +kernel
theorem dX6_copy_86 : decode cX6_copy 86 = .ok (.getfield 34, 3) := by decide +kernel
theorem dX6_copy_89 : decode cX6_copy 89 = .ok (.iload_n 1, 1) := by decide +kernel
theorem dX6_copy_90 : decode cX6_copy 90 = .ok (.iaload, 1) := by decide +kernel
theorem dX6_copy_91 : decode cX6_copy 91 = .ok (.i2l, 1) := by decide +kernel
theorem dX6_copy_92 : decode cX6_copy 92 = .ok (.lcmp, 1) := by decide +kernel
theorem dX6_copy_93 : decode cX6_copy 93 = .ok (.ifCond .gt 25, 3) := by decide +kernel
theorem dX6_copy_96 : decode cX6_copy 96 = .ok (.iload 4, 2) := by decide +kernel
theorem dX6_copy_98 : decode cX6_copy 98 = .ok (.i2l, 1) := by decide +kernel
theorem dX6_copy_99 : decode cX6_copy 99 = .ok (.iload 5, 2) := by decide +kernel
theorem dX6_copy_101 : decode cX6_copy 101 = .ok (.i2l, 1) := by decide +kernel
theorem dX6_copy_102 : decode cX6_copy 102 = .ok (.ladd, 1) := by decide +kernel
theorem dX6_copy_103 : decode cX6_copy 103 = .ok (.aload_n 0, 1) := by decide +kernel
theorem dX6_copy_104 : decode cX6_copy 104 = .ok (.getfield 34, 3) := by decide +kernel
theorem dX6_copy_107 : decode cX6_copy 107 = .ok (.iload_n 3, 1) := by decide +kernel
theorem dX6_copy_108 : decode cX6_copy 108 = .ok (.iaload, 1) := by decide +kernel
theorem dX6_copy_109 : decode cX6_copy 109 = .ok (.i2l, 1) := by decide +kernel
theorem dX6_copy_110 : decode cX6_copy 110 = .ok (.lcmp, 1) := by decide +kernel
theorem dX6_copy_111 : decode cX6_copy 111 = .ok (.ifCond .gt 7, 3) := by decide +kernel
theorem dX6_copy_114 : decode cX6_copy 114 = .ok (.iconst 1, 1) := by decide +kernel
theorem dX6_copy_115 : decode cX6_copy 115 = .ok (.goto 4, 3) := by decide +kernel
theorem dX6_copy_118 : decode cX6_copy 118 = .ok (.iconst 0, 1) := by decide +kernel
theorem dX6_copy_119 : decode cX6_copy 119 = .ok (.istore 6, 2) := by decide +kernel
theorem dX6_copy_121 : decode cX6_copy 121 = .ok (.iload 6, 2) := by decide +kernel
theorem dX6_copy_123 : decode cX6_copy 123 = .ok (.ifCond .ne 9, 3) := by decide +kernel
theorem dX6_copy_126 : decode cX6_copy 126 = .ok (.aload_n 0, 1) := by decide +kernel
theorem dX6_copy_127 : decode cX6_copy 127 = .ok (.iconst 0, 1) := by decide +kernel
theorem dX6_copy_128 : decode cX6_copy 128 = .ok (.invokevirtual 96, 3) := by decide +kernel
theorem dX6_copy_131 : decode cX6_copy 131 = .ok (.ireturn, 1) := by decide +kernel
theorem dX6_copy_132 : decode cX6_copy 132 = .ok (.iconst 0, 1) := by decide +kernel
theorem dX6_copy_133 : decode cX6_copy 133 = .ok (.istore 7, 2) := by decide +kernel
theorem dX6_copy_135 : decode cX6_copy 135 = .ok (.iload 7, 2) := by decide +kernel
theorem dX6_copy_137 : decode cX6_copy 137 = .ok (.iload 5, 2) := by decide +kernel
theorem dX6_copy_139 : decode cX6_copy 139 = .ok (.if_icmp .ge 30, 3) := by decide +kernel
theorem dX6_copy_142 : decode cX6_copy 142 = .ok (.aload_n 0, 1) := by decide +kernel
theorem dX6_copy_143 : decode cX6_copy 143 = .ok (.getfield 40, 3) := by decide +kernel
theorem dX6_copy_146 : decode cX6_copy 146 = .ok (.iload 7, 2) := by decide +kernel
theorem dX6_copy_148 : decode cX6_copy 148 = .ok (.aload_n 0, 1) := by decide +kernel
theorem dX6_copy_149 : decode cX6_copy 149 = .ok (.getfield 37, 3) := by decide +kernel
theorem dX6_copy_152 : decode cX6_copy 152 = .ok (.bipush 40, 2) := by decide +kernel
theorem dX6_copy_154 : decode cX6_copy 154 = .ok (.iload_n 1, 1) := by decide +kernel
theorem dX6_copy_155 : decode cX6_copy 155 = .ok (.imul, 1) := by decide +kernel
theorem dX6_copy_156 : decode cX6_copy 156 = .ok (.iload_n 2, 1) := by decide +kernel
theorem dX6_copy_157 : decode cX6_copy 157 = .ok (.iadd, 1) := by decide +kernel
theorem dX6_copy_158 : decode cX6_copy 158 = .ok (.iload 7, 2) := by decide +kernel
theorem dX6_copy_160 : decode cX6_copy 160 = .ok (.iadd, 1) := by decide +kernel
theorem dX6_copy_161 : decode cX6_copy 161 = .ok (.iaload, 1) := by decide +kernel
theorem dX6_copy_162 : decode cX6_copy 162 = .ok (.iastore, 1) := by decide +kernel
theorem dX6_copy_163 : decode cX6_copy 163 = .ok (.iinc 7 1, 3) := by decide +kernel
theorem dX6_copy_166 : decode cX6_copy 166 = .ok (.goto (-31), 3) := by decide +kernel
theorem dX6_copy_169 : decode cX6_copy 169 = .ok (.iconst 0, 1) := by decide +kernel
theorem dX6_copy_170 : decode cX6_copy 170 = .ok (.istore 7, 2) := by decide +kernel
theorem dX6_copy_172 : decode cX6_copy 172 = .ok (.iload 7, 2) := by decide +kernel
theorem dX6_copy_174 : decode cX6_copy 174 = .ok (.iload 5, 2) := by decide +kernel
theorem dX6_copy_176 : decode cX6_copy 176 = .ok (.if_icmp .ge 31, 3) := by decide +kernel
theorem dX6_copy_179 : decode cX6_copy 179 = .ok (.aload_n 0, 1) := by decide +kernel
theorem dX6_copy_180 : decode cX6_copy 180 = .ok (.getfield 37, 3) := by decide +kernel
theorem dX6_copy_183 : decode cX6_copy 183 = .ok (.bipush 40, 2) := by decide +kernel
theorem dX6_copy_185 : decode cX6_copy 185 = .ok (.iload_n 3, 1) := by decide +kernel
theorem dX6_copy_186 : decode cX6_copy 186 = .ok (.imul, 1) := by decide +kernel
theorem dX6_copy_187 : decode cX6_copy 187 = .ok (.iload 4, 2) := by decide +kernel
theorem dX6_copy_189 : decode cX6_copy 189 = .ok (.iadd, 1) := by decide +kernel
theorem dX6_copy_190 : decode cX6_copy 190 = .ok (.iload 7, 2) := by decide +kernel
theorem dX6_copy_192 : decode cX6_copy 192 = .ok (.iadd, 1) := by decide +kernel
theorem dX6_copy_193 : decode cX6_copy 193 = .ok (.aload_n 0, 1) := by decide +kernel
theorem dX6_copy_194 : decode cX6_copy 194 = .ok (.getfield 40, 3) := by decide +kernel
theorem dX6_copy_197 : decode cX6_copy 197 = .ok (.iload 7, 2) := by decide +kernel
theorem dX6_copy_199 : decode cX6_copy 199 = .ok (.iaload, 1) := by decide +kernel
theorem dX6_copy_200 : decode cX6_copy 200 = .ok (.iastore, 1) := by decide +kernel
theorem dX6_copy_201 : decode cX6_copy 201 = .ok (.iinc 7 1, 3) := by decide +kernel
theorem dX6_copy_204 : decode cX6_copy 204 = .ok (.goto (-32), 3) := by decide +kernel
theorem dX6_copy_207 : decode cX6_copy 207 = .ok (.iload 5, 2) := by decide +kernel
theorem dX6_copy_209 : decode cX6_copy 209 = .ok (.ireturn, 1) := by decide +kernel
theorem dX6_load_0 : decode cX6_load 0 = .ok (.aload_n 0, 1) := by decide +kernel
theorem dX6_load_1 : decode cX6_load 1 = .ok (.iload_n 1, 1) := by decide +kernel
theorem dX6_load_2 : decode cX6_load 2 = .ok (.invokevirtual 197, 3) := by decide +kernel
theorem dX6_load_5 : decode cX6_load 5 = .ok (.istore_n 2, 1) := by decide +kernel
theorem dX6_load_6 : decode cX6_load 6 = .ok (.iload_n 2, 1) := by decide +kernel
theorem dX6_load_7 : decode cX6_load 7 = .ok (.ifCond .lt 9, 3) := by decide +kernel
theorem dX6_load_10 : decode cX6_load 10 = .ok (.aload_n 0, 1) := by decide +kernel
theorem dX6_load_11 : decode cX6_load 11 = .ok (.iload_n 2, 1) := by decide +kernel
theorem dX6_load_12 : decode cX6_load 12 = .ok (.invokevirtual 96, 3) := by decide +kernel
theorem dX6_load_15 : decode cX6_load 15 = .ok (.ireturn, 1) := by decide +kernel
theorem dX6_load_16 : decode cX6_load 16 = .ok (.iconst 0, 1) := by decide +kernel
theorem dX6_load_17 : decode cX6_load 17 = .ok (.istore_n 3, 1) := by decide +kernel
theorem dX6_load_18 : decode cX6_load 18 = .ok (.iload_n 3, 1) := by decide +kernel
theorem dX6_load_19 : decode cX6_load 19 = .ok (.aload_n 0, 1) := by decide +kernel
theorem dX6_load_20 : decode cX6_load 20 = .ok (.getfield 34, 3) := by decide +kernel
theorem dX6_load_23 : decode cX6_load 23 = .ok (.iload_n 1, 1) := by decide +kernel
theorem dX6_load_24 : decode cX6_load 24 = .ok (.iaload, 1) := by decide +kernel
theorem dX6_load_25 : decode cX6_load 25 = .ok (.if_icmp .ge 54, 3) := by decide +kernel
theorem dX6_load_28 : decode cX6_load 28 = .ok (.iload_n 3, 1) := by decide +kernel
theorem dX6_load_29 : decode cX6_load 29 = .ok (.bipush 11, 2) := by decide +kernel
theorem dX6_load_31 : decode cX6_load 31 = .ok (.if_icmp .ge 48, 3) := by decide +kernel
theorem dX6_load_34 : decode cX6_load 34 = .ok (.aload_n 0, 1) := by decide +kernel
theorem dX6_load_35 : decode cX6_load 35 = .ok (.getfield 37, 3) := by decide +kernel
theorem dX6_load_38 : decode cX6_load 38 = .ok (.bipush 40, 2) := by decide +kernel
theorem dX6_load_40 : decode cX6_load 40 = .ok (.iload_n 1, 1) := by decide +kernel
theorem dX6_load_41 : decode cX6_load 41 = .ok (.imul, 1) := by decide +kernel
theorem dX6_load_42 : decode cX6_load 42 = .ok (.iload_n 3, 1) := by decide +kernel
theorem dX6_load_43 : decode cX6_load 43 = .ok (.iadd, 1) := by decide +kernel
theorem dX6_load_44 : decode cX6_load 44 = .ok (.iaload, 1) := by decide +kernel
theorem dX6_load_45 : decode cX6_load 45 = .ok (.i2l, 1) := by decide +kernel
theorem dX6_load_46 : decode cX6_load 46 = .ok (.lconst 0, 1) := by decide +kernel
theorem dX6_load_47 : decode cX6_load 47 = .ok (.ldc2_w 83, 3) := by decide +kernel
theorem dX6_load_50 : decode cX6_load 50 = .ok (.invokestatic 54, 3) := by decide +kernel
theorem dX6_load_53 : decode cX6_load 53 = .ok (.ifCond .eq 26, 3) := by decide +kernel
theorem dX6_load_56 : decode cX6_load 56 = .ok (.aload_n 0, 1) := by decide +kernel
theorem dX6_load_57 : decode cX6_load 57 = .ok (.iload_n 3, 1) := by decide +kernel
theorem dX6_load_58 : decode cX6_load 58 = .ok (.iconst 2, 1) := by decide +kernel
theorem dX6_load_59 : decode cX6_load 59 = .ok (.aload_n 0, 1) := by decide +kernel
theorem dX6_load_60 : decode cX6_load 60 = .ok (.getfield 37, 3) := by decide +kernel
theorem dX6_load_63 : decode cX6_load 63 = .ok (.bipush 40, 2) := by decide +kernel
theorem dX6_load_65 : decode cX6_load 65 = .ok (.iload_n 1, 1) := by decide +kernel
theorem dX6_load_66 : decode cX6_load 66 = .ok (.imul, 1) := by decide +kernel
theorem dX6_load_67 : decode cX6_load 67 = .ok (.iload_n 3, 1) := by decide +kernel
theorem dX6_load_68 : decode cX6_load 68 = .ok (.iadd, 1) := by decide +kernel
theorem dX6_load_69 : decode cX6_load 69 = .ok (.iaload, 1) := by decide +kernel
theorem dX6_load_70 : decode cX6_load 70 = .ok (.invokevirtual 43, 3) := by decide +kernel
theorem dX6_load_73 : decode cX6_load 73 = .ok (.iinc 3 1, 3) := by decide +kernel
theorem dX6_load_76 : decode cX6_load 76 = .ok (.goto (-58), 3) := by decide +kernel
theorem dX6_load_79 : decode cX6_load 79 = .ok (.iload_n 3, 1) := by decide +kernel
theorem dX6_load_80 : decode cX6_load 80 = .ok (.ireturn, 1) := by decide +kernel
theorem dX6_goesOn_0 : decode cX6_goesOn 0 = .ok (.aload_n 0, 1) := by decide +kernel
theorem dX6_goesOn_1 : decode cX6_goesOn 1 = .ok (.getfield 37, 3) := by decide +kernel
theorem dX6_goesOn_4 : decode cX6_goesOn 4 = .ok (.bipush 40, 2) := by decide +kernel
theorem dX6_goesOn_6 : decode cX6_goesOn 6 = .ok (.iload_n 1, 1) := by decide +kernel
theorem dX6_goesOn_7 : decode cX6_goesOn 7 = .ok (.imul, 1) := by decide +kernel
theorem dX6_goesOn_8 : decode cX6_goesOn 8 = .ok (.iload_n 2, 1) := by decide +kernel
theorem dX6_goesOn_9 : decode cX6_goesOn 9 = .ok (.iadd, 1) := by decide +kernel
theorem dX6_goesOn_10 : decode cX6_goesOn 10 = .ok (.iaload, 1) := by decide +kernel
theorem dX6_goesOn_11 : decode cX6_goesOn 11 = .ok (.istore_n 3, 1) := by decide +kernel
theorem dX6_goesOn_12 : decode cX6_goesOn 12 = .ok (.iload_n 3, 1) := by decide +kernel
theorem dX6_goesOn_13 : decode cX6_goesOn 13 = .ok (.invokestatic 87, 3) := by decide +kernel
theorem dX6_goesOn_16 : decode cX6_goesOn 16 = .ok (.ifCond .eq 32, 3) := by decide +kernel
theorem dX6_goesOn_19 : decode cX6_goesOn 19 = .ok (.iload_n 2, 1) := by decide +kernel
theorem dX6_goesOn_20 : decode cX6_goesOn 20 = .ok (.ifCond .eq 24, 3) := by decide +kernel
theorem dX6_goesOn_23 : decode cX6_goesOn 23 = .ok (.aload_n 0, 1) := by decide +kernel
theorem dX6_goesOn_24 : decode cX6_goesOn 24 = .ok (.aload_n 0, 1) := by decide +kernel
theorem dX6_goesOn_25 : decode cX6_goesOn 25 = .ok (.getfield 37, 3) := by decide +kernel
theorem dX6_goesOn_28 : decode cX6_goesOn 28 = .ok (.bipush 40, 2) := by decide +kernel
theorem dX6_goesOn_30 : decode cX6_goesOn 30 = .ok (.iload_n 1, 1) := by decide +kernel
theorem dX6_goesOn_31 : decode cX6_goesOn 31 = .ok (.imul, 1) := by decide +kernel
theorem dX6_goesOn_32 : decode cX6_goesOn 32 = .ok (.iload_n 2, 1) := by decide +kernel
theorem dX6_goesOn_33 : decode cX6_goesOn 33 = .ok (.iadd, 1) := by decide +kernel
theorem dX6_goesOn_34 : decode cX6_goesOn 34 = .ok (.iconst 1, 1) := by decide +kernel
theorem dX6_goesOn_35 : decode cX6_goesOn 35 = .ok (.isub, 1) := by decide +kernel
theorem dX6_goesOn_36 : decode cX6_goesOn 36 = .ok (.iaload, 1) := by decide +kernel
theorem dX6_goesOn_37 : decode cX6_goesOn 37 = .ok (.invokevirtual 110, 3) := by decide +kernel
theorem dX6_goesOn_40 : decode cX6_goesOn 40 = .ok (.iload_n 3, 1) := by decide +kernel
theorem dX6_goesOn_41 : decode cX6_goesOn 41 = .ok (.if_icmp .ne 7, 3) := by decide +kernel
theorem dX6_goesOn_44 : decode cX6_goesOn 44 = .ok (.iconst 1, 1) := by decide +kernel
theorem dX6_goesOn_45 : decode cX6_goesOn 45 = .ok (.goto 4, 3) := by decide +kernel
theorem dX6_goesOn_48 : decode cX6_goesOn 48 = .ok (.iconst 0, 1) := by decide +kernel
theorem dX6_goesOn_49 : decode cX6_goesOn 49 = .ok (.ireturn, 1) := by decide +kernel
theorem dX6_judge_0 : decode cX6_judge 0 = .ok (.aload_n 0, 1) := by decide +kernel
theorem dX6_judge_1 : decode cX6_judge 1 = .ok (.iload_n 1, 1) := by decide +kernel
theorem dX6_judge_2 : decode cX6_judge 2 = .ok (.invokevirtual 197, 3) := by decide +kernel
theorem dX6_judge_5 : decode cX6_judge 5 = .ok (.istore_n 2, 1) := by decide +kernel
theorem dX6_judge_6 : decode cX6_judge 6 = .ok (.iload_n 2, 1) := by decide +kernel
theorem dX6_judge_7 : decode cX6_judge 7 = .ok (.ifCond .lt 9, 3) := by decide +kernel
theorem dX6_judge_10 : decode cX6_judge 10 = .ok (.aload_n 0, 1) := by decide +kernel
theorem dX6_judge_11 : decode cX6_judge 11 = .ok (.iload_n 2, 1) := by decide +kernel
theorem dX6_judge_12 : decode cX6_judge 12 = .ok (.invokevirtual 96, 3) := by decide +kernel
theorem dX6_judge_15 : decode cX6_judge 15 = .ok (.ireturn, 1) := by decide +kernel
theorem dX6_judge_16 : decode cX6_judge 16 = .ok (.iconst 0, 1) := by decide +kernel
theorem dX6_judge_17 : decode cX6_judge 17 = .ok (.istore_n 3, 1) := by decide +kernel
theorem dX6_judge_18 : decode cX6_judge 18 = .ok (.iload_n 3, 1) := by decide +kernel
theorem dX6_judge_19 : decode cX6_judge 19 = .ok (.aload_n 0, 1) := by decide +kernel
theorem dX6_judge_20 : decode cX6_judge 20 = .ok (.getfield 34, 3) := by decide +kernel
theorem dX6_judge_23 : decode cX6_judge 23 = .ok (.iload_n 1, 1) := by decide +kernel
theorem dX6_judge_24 : decode cX6_judge 24 = .ok (.iaload, 1) := by decide +kernel
theorem dX6_judge_25 : decode cX6_judge 25 = .ok (.if_icmp .ge 18, 3) := by decide +kernel
theorem dX6_judge_28 : decode cX6_judge 28 = .ok (.aload_n 0, 1) := by decide +kernel
theorem dX6_judge_29 : decode cX6_judge 29 = .ok (.iload_n 1, 1) := by decide +kernel
theorem dX6_judge_30 : decode cX6_judge 30 = .ok (.iload_n 3, 1) := by decide +kernel
theorem dX6_judge_31 : decode cX6_judge 31 = .ok (.invokevirtual 306, 3) := by decide +kernel
theorem dX6_judge_34 : decode cX6_judge 34 = .ok (.ifCond .eq 9, 3) := by decide +kernel
theorem dX6_judge_37 : decode cX6_judge 37 = .ok (.iinc 3 1, 3) := by decide +kernel
theorem dX6_judge_40 : decode cX6_judge 40 = .ok (.goto (-22), 3) := by decide +kernel
theorem dX6_judge_43 : decode cX6_judge 43 = .ok (.iload_n 3, 1) := by decide +kernel
theorem dX6_judge_44 : decode cX6_judge 44 = .ok (.aload_n 0, 1) := by decide +kernel
theorem dX6_judge_45 : decode cX6_judge 45 = .ok (.getfield 34, 3) := by decide +kernel
theorem dX6_judge_48 : decode cX6_judge 48 = .ok (.iload_n 1, 1) := by decide +kernel
theorem dX6_judge_49 : decode cX6_judge 49 = .ok (.iaload, 1) := by decide +kernel
theorem dX6_judge_50 : decode cX6_judge 50 = .ok (.if_icmp .ne 7, 3) := by decide +kernel
theorem dX6_judge_53 : decode cX6_judge 53 = .ok (.iconst 0, 1) := by decide +kernel
theorem dX6_judge_54 : decode cX6_judge 54 = .ok (.goto 6, 3) := by decide +kernel
theorem dX6_judge_57 : decode cX6_judge 57 = .ok (.iload_n 3, 1) := by decide +kernel
theorem dX6_judge_58 : decode cX6_judge 58 = .ok (.iconst 1, 1) := by decide +kernel
theorem dX6_judge_59 : decode cX6_judge 59 = .ok (.iadd, 1) := by decide +kernel
theorem dX6_judge_60 : decode cX6_judge 60 = .ok (.ireturn, 1) := by decide +kernel
theorem dX6_image_0 : decode cX6_image 0 = .ok (.aload_n 0, 1) := by decide +kernel
theorem dX6_image_1 : decode cX6_image 1 = .ok (.getfield 9, 3) := by decide +kernel
theorem dX6_image_4 : decode cX6_image 4 = .ok (.aload_n 0, 1) := by decide +kernel
theorem dX6_image_5 : decode cX6_image 5 = .ok (.getfield 13, 3) := by decide +kernel
theorem dX6_image_8 : decode cX6_image 8 = .ok (.invokestatic 48, 3) := by decide +kernel
theorem dX6_image_11 : decode cX6_image 11 = .ok (.aload_n 0, 1) := by decide +kernel
theorem dX6_image_12 : decode cX6_image 12 = .ok (.iconst 1, 1) := by decide +kernel
theorem dX6_image_13 : decode cX6_image 13 = .ok (.putfield 309, 3) := by decide +kernel
theorem dX6_image_16 : decode cX6_image 16 = .ok (.iconst 1, 1) := by decide +kernel
theorem dX6_image_17 : decode cX6_image 17 = .ok (.ireturn, 1) := by decide +kernel
theorem dX6_undo_0 : decode cX6_undo 0 = .ok (.aload_n 0, 1) := by decide +kernel
theorem dX6_undo_1 : decode cX6_undo 1 = .ok (.getfield 309, 3) := by decide +kernel
theorem dX6_undo_4 : decode cX6_undo 4 = .ok (.ifCond .ne 9, 3) := by decide +kernel
theorem dX6_undo_7 : decode cX6_undo 7 = .ok (.aload_n 0, 1) := by decide +kernel
theorem dX6_undo_8 : decode cX6_undo 8 = .ok (.iconst 3, 1) := by decide +kernel
theorem dX6_undo_9 : decode cX6_undo 9 = .ok (.invokevirtual 96, 3) := by decide +kernel
theorem dX6_undo_12 : decode cX6_undo 12 = .ok (.ireturn, 1) := by decide +kernel
theorem dX6_undo_13 : decode cX6_undo 13 = .ok (.aload_n 0, 1) := by decide +kernel
theorem dX6_undo_14 : decode cX6_undo 14 = .ok (.getfield 13, 3) := by decide +kernel
theorem dX6_undo_17 : decode cX6_undo 17 = .ok (.aload_n 0, 1) := by decide +kernel
theorem dX6_undo_18 : decode cX6_undo 18 = .ok (.getfield 9, 3) := by decide +kernel
theorem dX6_undo_21 : decode cX6_undo 21 = .ok (.invokestatic 48, 3) := by decide +kernel
theorem dX6_undo_24 : decode cX6_undo 24 = .ok (.aload_n 0, 1) := by decide +kernel
theorem dX6_undo_25 : decode cX6_undo 25 = .ok (.getfield 9, 3) := by decide +kernel
theorem dX6_undo_28 : decode cX6_undo 28 = .ok (.iconst 0, 1) := by decide +kernel
theorem dX6_undo_29 : decode cX6_undo 29 = .ok (.iaload, 1) := by decide +kernel
theorem dX6_undo_30 : decode cX6_undo 30 = .ok (.ireturn, 1) := by decide +kernel
theorem dX6_tear_0 : decode cX6_tear 0 = .ok (.aload_n 0, 1) := by decide +kernel
theorem dX6_tear_1 : decode cX6_tear 1 = .ok (.getfield 309, 3) := by decide +kernel
theorem dX6_tear_4 : decode cX6_tear 4 = .ok (.ifCond .eq 7, 3) := by decide +kernel
theorem dX6_tear_7 : decode cX6_tear 7 = .ok (.iconst 1, 1) := by decide +kernel
theorem dX6_tear_8 : decode cX6_tear 8 = .ok (.goto 4, 3) := by decide +kernel
theorem dX6_tear_11 : decode cX6_tear 11 = .ok (.iconst 0, 1) := by decide +kernel
theorem dX6_tear_12 : decode cX6_tear 12 = .ok (.istore_n 1, 1) := by decide +kernel
theorem dX6_tear_13 : decode cX6_tear 13 = .ok (.aload_n 0, 1) := by decide +kernel
theorem dX6_tear_14 : decode cX6_tear 14 = .ok (.iconst 0, 1) := by decide +kernel
theorem dX6_tear_15 : decode cX6_tear 15 = .ok (.putfield 309, 3) := by decide +kernel
theorem dX6_tear_18 : decode cX6_tear 18 = .ok (.iload_n 1, 1) := by decide +kernel
theorem dX6_tear_19 : decode cX6_tear 19 = .ok (.ireturn, 1) := by decide +kernel
theorem dX6_held_0 : decode cX6_held 0 = .ok (.iconst 0, 1) := by decide +kernel
theorem dX6_held_1 : decode cX6_held 1 = .ok (.istore_n 1, 1) := by decide +kernel
theorem dX6_held_2 : decode cX6_held 2 = .ok (.iconst 0, 1) := by decide +kernel
theorem dX6_held_3 : decode cX6_held 3 = .ok (.istore_n 2, 1) := by decide +kernel
theorem dX6_held_4 : decode cX6_held 4 = .ok (.iload_n 2, 1) := by decide +kernel
theorem dX6_held_5 : decode cX6_held 5 = .ok (.bipush 10, 2) := by decide +kernel
theorem dX6_held_7 : decode cX6_held 7 = .ok (.if_icmp .ge 29, 3) := by decide +kernel
theorem dX6_held_10 : decode cX6_held 10 = .ok (.iload_n 1, 1) := by decide +kernel
theorem dX6_held_11 : decode cX6_held 11 = .ok (.aload_n 0, 1) := by decide +kernel
theorem dX6_held_12 : decode cX6_held 12 = .ok (.getfield 9, 3) := by decide +kernel
theorem dX6_held_15 : decode cX6_held 15 = .ok (.bipush 71, 2) := by decide +kernel
theorem dX6_held_17 : decode cX6_held 17 = .ok (.iload_n 2, 1) := by decide +kernel
theorem dX6_held_18 : decode cX6_held 18 = .ok (.iadd, 1) := by decide +kernel
theorem dX6_held_19 : decode cX6_held 19 = .ok (.iaload, 1) := by decide +kernel
theorem dX6_held_20 : decode cX6_held 20 = .ok (.ifCond .ge 7, 3) := by decide +kernel
theorem dX6_held_23 : decode cX6_held 23 = .ok (.iconst 0, 1) := by decide +kernel
theorem dX6_held_24 : decode cX6_held 24 = .ok (.goto 4, 3) := by decide +kernel
theorem dX6_held_27 : decode cX6_held 27 = .ok (.iconst 1, 1) := by decide +kernel
theorem dX6_held_28 : decode cX6_held 28 = .ok (.iadd, 1) := by decide +kernel
theorem dX6_held_29 : decode cX6_held 29 = .ok (.istore_n 1, 1) := by decide +kernel
theorem dX6_held_30 : decode cX6_held 30 = .ok (.iinc 2 1, 3) := by decide +kernel
theorem dX6_held_33 : decode cX6_held 33 = .ok (.goto (-29), 3) := by decide +kernel
theorem dX6_held_36 : decode cX6_held 36 = .ok (.iload_n 1, 1) := by decide +kernel
theorem dX6_held_37 : decode cX6_held 37 = .ok (.ireturn, 1) := by decide +kernel
theorem dX6_unlikeHouses_0 : decode cX6_unlikeHouses 0 = .ok (.iconst 0, 1) := by decide +kernel
theorem dX6_unlikeHouses_1 : decode cX6_unlikeHouses 1 = .ok (.istore_n 1, 1) := by decide +kernel
theorem dX6_unlikeHouses_2 : decode cX6_unlikeHouses 2 = .ok (.iconst 0, 1) := by decide +kernel
theorem dX6_unlikeHouses_3 : decode cX6_unlikeHouses 3 = .ok (.istore_n 2, 1) := by decide +kernel
theorem dX6_unlikeHouses_4 : decode cX6_unlikeHouses 4 = .ok (.iload_n 2, 1) := by decide +kernel
theorem dX6_unlikeHouses_5 : decode cX6_unlikeHouses 5 = .ok (.bipush 11, 2) := by decide +kernel
theorem dX6_unlikeHouses_7 : decode cX6_unlikeHouses 7 = .ok (.if_icmp .ge 26, 3) := by decide +kernel
theorem dX6_unlikeHouses_10 : decode cX6_unlikeHouses 10 = .ok (.iload_n 1, 1) := by decide +kernel
theorem dX6_unlikeHouses_11 : decode cX6_unlikeHouses 11 = .ok (.aload_n 0, 1) := by decide +kernel
theorem dX6_unlikeHouses_12 : decode cX6_unlikeHouses 12 = .ok (.iload_n 2, 1) := by decide +kernel
theorem dX6_unlikeHouses_13 : decode cX6_unlikeHouses 13 = .ok (.iconst 0, 1) := by decide +kernel
theorem dX6_unlikeHouses_14 : decode cX6_unlikeHouses 14 = .ok (.invokevirtual 64, 3) := by decide +kernel
theorem dX6_unlikeHouses_17 : decode cX6_unlikeHouses 17 = .ok (.ifCond .ne 7, 3) := by decide +kernel

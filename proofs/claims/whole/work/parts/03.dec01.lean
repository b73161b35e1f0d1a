theorem dX5_dry_16 : decode cX5_dry 16 = .ok (.getfield 19, 3) := by decide +kernel
theorem dX5_dry_19 : decode cX5_dry 19 = .ok (.aload_n 0, 1) := by decide +kernel
theorem dX5_dry_20 : decode cX5_dry 20 = .ok (.getfield 10, 3) := by decide +kernel
theorem dX5_dry_23 : decode cX5_dry 23 = .ok (.invokevirtual 126, 3) := by decide +kernel
theorem dX5_dry_26 : decode cX5_dry 26 = .ok (.aload_n 0, 1) := by decide +kernel
theorem dX5_dry_27 : decode cX5_dry 27 = .ok (.getfield 19, 3) := by decide +kernel
theorem dX5_dry_30 : decode cX5_dry 30 = .ok (.iload_n 1, 1) := by decide +kernel
theorem dX5_dry_31 : decode cX5_dry 31 = .ok (.bipush 10, 2) := by decide +kernel
theorem dX5_dry_33 : decode cX5_dry 33 = .ok (.invokevirtual 110, 3) := by decide +kernel
theorem dX5_dry_36 : decode cX5_dry 36 = .ok (.ireturn, 1) := by decide +kernel
theorem dX5_when_0 : decode cX5_when 0 = .ok (.iload_n 1, 1) := by decide +kernel
theorem dX5_when_1 : decode cX5_when 1 = .ok (.invokestatic 52, 3) := by decide +kernel
theorem dX5_when_4 : decode cX5_when 4 = .ok (.ifCond .eq 13, 3) := by decide +kernel
theorem dX5_when_7 : decode cX5_when 7 = .ok (.iload_n 2, 1) := by decide +kernel
theorem dX5_when_8 : decode cX5_when 8 = .ok (.sipush 9999, 3) := by decide +kernel
theorem dX5_when_11 : decode cX5_when 11 = .ok (.invokestatic 56, 3) := by decide +kernel
theorem dX5_when_14 : decode cX5_when 14 = .ok (.ifCond .ne 9, 3) := by decide +kernel
theorem dX5_when_17 : decode cX5_when 17 = .ok (.aload_n 0, 1) := by decide +kernel
theorem dX5_when_18 : decode cX5_when 18 = .ok (.iconst 0, 1) := by decide +kernel
theorem dX5_when_19 : decode cX5_when 19 = .ok (.invokevirtual 64, 3) := by decide +kernel
theorem dX5_when_22 : decode cX5_when 22 = .ok (.ireturn, 1) := by decide +kernel
theorem dX5_when_23 : decode cX5_when 23 = .ok (.aload_n 0, 1) := by decide +kernel
theorem dX5_when_24 : decode cX5_when 24 = .ok (.getfield 19, 3) := by decide +kernel
theorem dX5_when_27 : decode cX5_when 27 = .ok (.aload_n 0, 1) := by decide +kernel
theorem dX5_when_28 : decode cX5_when 28 = .ok (.getfield 10, 3) := by decide +kernel
theorem dX5_when_31 : decode cX5_when 31 = .ok (.invokevirtual 126, 3) := by decide +kernel
theorem dX5_when_34 : decode cX5_when 34 = .ok (.iconst 0, 1) := by decide +kernel
theorem dX5_when_35 : decode cX5_when 35 = .ok (.istore_n 3, 1) := by decide +kernel
theorem dX5_when_36 : decode cX5_when 36 = .ok (.iload_n 3, 1) := by decide +kernel
theorem dX5_when_37 : decode cX5_when 37 = .ok (.bipush 100, 2) := by decide +kernel
theorem dX5_when_39 : decode cX5_when 39 = .ok (.if_icmp .gt 33, 3) := by decide +kernel
theorem dX5_when_42 : decode cX5_when 42 = .ok (.aload_n 0, 1) := by decide +kernel
theorem dX5_when_43 : decode cX5_when 43 = .ok (.getfield 19, 3) := by decide +kernel
theorem dX5_when_46 : decode cX5_when 46 = .ok (.getfield 103, 3) := by decide +kernel
theorem dX5_when_49 : decode cX5_when 49 = .ok (.iload_n 1, 1) := by decide +kernel
theorem dX5_when_50 : decode cX5_when 50 = .ok (.iaload, 1) := by decide +kernel
theorem dX5_when_51 : decode cX5_when 51 = .ok (.iload_n 2, 1) := by decide +kernel
theorem dX5_when_52 : decode cX5_when 52 = .ok (.if_icmp .lt 5, 3) := by decide +kernel
theorem dX5_when_55 : decode cX5_when 55 = .ok (.iload_n 3, 1) := by decide +kernel
theorem dX5_when_56 : decode cX5_when 56 = .ok (.ireturn, 1) := by decide +kernel
theorem dX5_when_57 : decode cX5_when 57 = .ok (.aload_n 0, 1) := by decide +kernel
theorem dX5_when_58 : decode cX5_when 58 = .ok (.getfield 19, 3) := by decide +kernel
theorem dX5_when_61 : decode cX5_when 61 = .ok (.iload_n 1, 1) := by decide +kernel
theorem dX5_when_62 : decode cX5_when 62 = .ok (.invokevirtual 130, 3) := by decide +kernel
theorem dX5_when_65 : decode cX5_when 65 = .ok (.pop, 1) := by decide +kernel
theorem dX5_when_66 : decode cX5_when 66 = .ok (.iinc 3 1, 3) := by decide +kernel
theorem dX5_when_69 : decode cX5_when 69 = .ok (.goto (-33), 3) := by decide +kernel
theorem dX5_when_72 : decode cX5_when 72 = .ok (.aload_n 0, 1) := by decide +kernel
theorem dX5_when_73 : decode cX5_when 73 = .ok (.iconst 3, 1) := by decide +kernel
theorem dX5_when_74 : decode cX5_when 74 = .ok (.invokevirtual 64, 3) := by decide +kernel
theorem dX5_when_77 : decode cX5_when 77 = .ok (.ireturn, 1) := by decide +kernel
theorem dX5_settles_0 : decode cX5_settles 0 = .ok (.aload_n 0, 1) := by decide +kernel
theorem dX5_settles_1 : decode cX5_settles 1 = .ok (.getfield 19, 3) := by decide +kernel
theorem dX5_settles_4 : decode cX5_settles 4 = .ok (.aload_n 0, 1) := by decide +kernel
theorem dX5_settles_5 : decode cX5_settles 5 = .ok (.getfield 10, 3) := by decide +kernel
theorem dX5_settles_8 : decode cX5_settles 8 = .ok (.invokevirtual 126, 3) := by decide +kernel
theorem dX5_settles_11 : decode cX5_settles 11 = .ok (.iconst 0, 1) := by decide +kernel
theorem dX5_settles_12 : decode cX5_settles 12 = .ok (.istore_n 1, 1) := by decide +kernel
theorem dX5_settles_13 : decode cX5_settles 13 = .ok (.iload_n 1, 1) := by decide +kernel
theorem dX5_settles_14 : decode cX5_settles 14 = .ok (.bipush 100, 2) := by decide +kernel
theorem dX5_settles_16 : decode cX5_settles 16 = .ok (.if_icmp .gt 46, 3) := by decide +kernel
theorem dX5_settles_19 : decode cX5_settles 19 = .ok (.aload_n 0, 1) := by decide +kernel
theorem dX5_settles_20 : decode cX5_settles 20 = .ok (.getfield 19, 3) := by decide +kernel
theorem dX5_settles_23 : decode cX5_settles 23 = .ok (.getfield 103, 3) := by decide +kernel
theorem dX5_settles_26 : decode cX5_settles 26 = .ok (.iconst 0, 1) := by decide +kernel
theorem dX5_settles_27 : decode cX5_settles 27 = .ok (.aload_n 0, 1) := by decide +kernel
theorem dX5_settles_28 : decode cX5_settles 28 = .ok (.getfield 22, 3) := by decide +kernel
theorem dX5_settles_31 : decode cX5_settles 31 = .ok (.iconst 0, 1) := by decide +kernel
theorem dX5_settles_32 : decode cX5_settles 32 = .ok (.bipush 11, 2) := by decide +kernel
theorem dX5_settles_34 : decode cX5_settles 34 = .ok (.invokestatic 133, 3) := by decide +kernel
theorem dX5_settles_37 : decode cX5_settles 37 = .ok (.aload_n 0, 1) := by decide +kernel
theorem dX5_settles_38 : decode cX5_settles 38 = .ok (.getfield 19, 3) := by decide +kernel
theorem dX5_settles_41 : decode cX5_settles 41 = .ok (.bipush 10, 2) := by decide +kernel
theorem dX5_settles_43 : decode cX5_settles 43 = .ok (.invokevirtual 130, 3) := by decide +kernel
theorem dX5_settles_46 : decode cX5_settles 46 = .ok (.pop, 1) := by decide +kernel
theorem dX5_settles_47 : decode cX5_settles 47 = .ok (.aload_n 0, 1) := by decide +kernel
theorem dX5_settles_48 : decode cX5_settles 48 = .ok (.invokevirtual 139, 3) := by decide +kernel
theorem dX5_settles_51 : decode cX5_settles 51 = .ok (.ifCond .eq 5, 3) := by decide +kernel
theorem dX5_settles_54 : decode cX5_settles 54 = .ok (.iload_n 1, 1) := by decide +kernel
theorem dX5_settles_55 : decode cX5_settles 55 = .ok (.ireturn, 1) := by decide +kernel
theorem dX5_settles_56 : decode cX5_settles 56 = .ok (.iinc 1 1, 3) := by decide +kernel
theorem dX5_settles_59 : decode cX5_settles 59 = .ok (.goto (-46), 3) := by decide +kernel
theorem dX5_settles_62 : decode cX5_settles 62 = .ok (.aload_n 0, 1) := by decide +kernel
theorem dX5_settles_63 : decode cX5_settles 63 = .ok (.iconst 3, 1) := by decide +kernel
theorem dX5_settles_64 : decode cX5_settles 64 = .ok (.invokevirtual 64, 3) := by decide +kernel
theorem dX5_settles_67 : decode cX5_settles 67 = .ok (.ireturn, 1) := by decide +kernel
theorem dX5_below_0 : decode cX5_below 0 = .ok (.iload_n 1, 1) := by decide +kernel
theorem dX5_below_1 : decode cX5_below 1 = .ok (.invokestatic 52, 3) := by decide +kernel
theorem dX5_below_4 : decode cX5_below 4 = .ok (.ifCond .ne 9, 3) := by decide +kernel
theorem dX5_below_7 : decode cX5_below 7 = .ok (.aload_n 0, 1) := by decide +kernel
theorem dX5_below_8 : decode cX5_below 8 = .ok (.iconst 0, 1) := by decide +kernel
theorem dX5_below_9 : decode cX5_below 9 = .ok (.invokevirtual 64, 3) := by decide +kernel
theorem dX5_below_12 : decode cX5_below 12 = .ok (.ireturn, 1) := by decide +kernel
theorem dX5_below_13 : decode cX5_below 13 = .ok (.iconst 0, 1) := by decide +kernel
theorem dX5_below_14 : decode cX5_below 14 = .ok (.istore_n 2, 1) := by decide +kernel
theorem dX5_below_15 : decode cX5_below 15 = .ok (.iload_n 1, 1) := by decide +kernel
theorem dX5_below_16 : decode cX5_below 16 = .ok (.istore_n 3, 1) := by decide +kernel
theorem dX5_below_17 : decode cX5_below 17 = .ok (.iconst 0, 1) := by decide +kernel
theorem dX5_below_18 : decode cX5_below 18 = .ok (.istore 4, 2) := by decide +kernel
theorem dX5_below_20 : decode cX5_below 20 = .ok (.iload 4, 2) := by decide +kernel
theorem dX5_below_22 : decode cX5_below 22 = .ok (.bipush 11, 2) := by decide +kernel
theorem dX5_below_24 : decode cX5_below 24 = .ok (.if_icmp .ge 29, 3) := by decide +kernel
theorem dX5_below_27 : decode cX5_below 27 = .ok (.iload_n 3, 1) := by decide +kernel
theorem dX5_below_28 : decode cX5_below 28 = .ok (.iconst (-1), 1) := by decide +kernel
theorem dX5_below_29 : decode cX5_below 29 = .ok (.if_icmp .eq 24, 3) := by decide +kernel
theorem dX5_below_32 : decode cX5_below 32 = .ok (.iload_n 2, 1) := by decide +kernel
theorem dX5_below_33 : decode cX5_below 33 = .ok (.iconst 1, 1) := by decide +kernel
theorem dX5_below_34 : decode cX5_below 34 = .ok (.iload_n 3, 1) := by decide +kernel
theorem dX5_below_35 : decode cX5_below 35 = .ok (.ishl, 1) := by decide +kernel
theorem dX5_below_36 : decode cX5_below 36 = .ok (.ior, 1) := by decide +kernel
theorem dX5_below_37 : decode cX5_below 37 = .ok (.istore_n 2, 1) := by decide +kernel
theorem dX5_below_38 : decode cX5_below 38 = .ok (.aload_n 0, 1) := by decide +kernel
theorem dX5_below_39 : decode cX5_below 39 = .ok (.getfield 10, 3) := by decide +kernel
theorem dX5_below_42 : decode cX5_below 42 = .ok (.iload_n 3, 1) := by decide +kernel
theorem dX5_below_43 : decode cX5_below 43 = .ok (.invokevirtual 85, 3) := by decide +kernel
theorem dX5_below_46 : decode cX5_below 46 = .ok (.istore_n 3, 1) := by decide +kernel
theorem dX5_below_47 : decode cX5_below 47 = .ok (.iinc 4 1, 3) := by decide +kernel
theorem dX5_below_50 : decode cX5_below 50 = .ok (.goto (-30), 3) := by decide +kernel
theorem dX5_below_53 : decode cX5_below 53 = .ok (.iload_n 2, 1) := by decide +kernel
theorem dX5_below_54 : decode cX5_below 54 = .ok (.ireturn, 1) := by decide +kernel
theorem dX5_rainFor_0 : decode cX5_rainFor 0 = .ok (.iload_n 1, 1) := by decide +kernel
theorem dX5_rainFor_1 : decode cX5_rainFor 1 = .ok (.invokestatic 52, 3) := by decide +kernel
theorem dX5_rainFor_4 : decode cX5_rainFor 4 = .ok (.ifCond .eq 12, 3) := by decide +kernel
theorem dX5_rainFor_7 : decode cX5_rainFor 7 = .ok (.iload_n 2, 1) := by decide +kernel
theorem dX5_rainFor_8 : decode cX5_rainFor 8 = .ok (.bipush 40, 2) := by decide +kernel
theorem dX5_rainFor_10 : decode cX5_rainFor 10 = .ok (.invokestatic 56, 3) := by decide +kernel
theorem dX5_rainFor_13 : decode cX5_rainFor 13 = .ok (.ifCond .ne 9, 3) := by decide +kernel
theorem dX5_rainFor_16 : decode cX5_rainFor 16 = .ok (.aload_n 0, 1) := by decide +kernel
theorem dX5_rainFor_17 : decode cX5_rainFor 17 = .ok (.iconst 0, 1) := by decide +kernel
theorem dX5_rainFor_18 : decode cX5_rainFor 18 = .ok (.invokevirtual 64, 3) := by decide +kernel
theorem dX5_rainFor_21 : decode cX5_rainFor 21 = .ok (.ireturn, 1) := by decide +kernel
theorem dX5_rainFor_22 : decode cX5_rainFor 22 = .ok (.aload_n 0, 1) := by decide +kernel
theorem dX5_rainFor_23 : decode cX5_rainFor 23 = .ok (.bipush 6, 2) := by decide +kernel
theorem dX5_rainFor_25 : decode cX5_rainFor 25 = .ok (.sipush 999, 3) := by decide +kernel
theorem dX5_rainFor_28 : decode cX5_rainFor 28 = .ok (.iload_n 1, 1) := by decide +kernel
theorem dX5_rainFor_29 : decode cX5_rainFor 29 = .ok (.iload_n 2, 1) := by decide +kernel
theorem dX5_rainFor_30 : decode cX5_rainFor 30 = .ok (.invokevirtual 143, 3) := by decide +kernel
theorem dX5_rainFor_33 : decode cX5_rainFor 33 = .ok (.ireturn, 1) := by decide +kernel
theorem dX5_holdsFor_0 : decode cX5_holdsFor 0 = .ok (.iload_n 1, 1) := by decide +kernel
theorem dX5_holdsFor_1 : decode cX5_holdsFor 1 = .ok (.invokestatic 52, 3) := by decide +kernel
theorem dX5_holdsFor_4 : decode cX5_holdsFor 4 = .ok (.ifCond .eq 12, 3) := by decide +kernel
theorem dX5_holdsFor_7 : decode cX5_holdsFor 7 = .ok (.iload_n 2, 1) := by decide +kernel
theorem dX5_holdsFor_8 : decode cX5_holdsFor 8 = .ok (.bipush 40, 2) := by decide +kernel
theorem dX5_holdsFor_10 : decode cX5_holdsFor 10 = .ok (.invokestatic 56, 3) := by decide +kernel
theorem dX5_holdsFor_13 : decode cX5_holdsFor 13 = .ok (.ifCond .ne 9, 3) := by decide +kernel
theorem dX5_holdsFor_16 : decode cX5_holdsFor 16 = .ok (.aload_n 0, 1) := by decide +kernel
theorem dX5_holdsFor_17 : decode cX5_holdsFor 17 = .ok (.iconst 0, 1) := by decide +kernel
theorem dX5_holdsFor_18 : decode cX5_holdsFor 18 = .ok (.invokevirtual 64, 3) := by decide +kernel
theorem dX5_holdsFor_21 : decode cX5_holdsFor 21 = .ok (.ireturn, 1) := by decide +kernel
theorem dX5_holdsFor_22 : decode cX5_holdsFor 22 = .ok (.aload_n 0, 1) := by decide +kernel
theorem dX5_holdsFor_23 : decode cX5_holdsFor 23 = .ok (.iconst 3, 1) := by decide +kernel
theorem dX5_holdsFor_24 : decode cX5_holdsFor 24 = .ok (.sipush 200, 3) := by decide +kernel
theorem dX5_holdsFor_27 : decode cX5_holdsFor 27 = .ok (.iload_n 1, 1) := by decide +kernel
theorem dX5_holdsFor_28 : decode cX5_holdsFor 28 = .ok (.iload_n 2, 1) := by decide +kernel
theorem dX5_holdsFor_29 : decode cX5_holdsFor 29 = .ok (.invokevirtual 143, 3) := by decide +kernel
theorem dX5_holdsFor_32 : decode cX5_holdsFor 32 = .ok (.ireturn, 1) := by decide +kernel
theorem dX5_needFor_0 : decode cX5_needFor 0 = .ok (.iload_n 1, 1) := by decide +kernel
theorem dX5_needFor_1 : decode cX5_needFor 1 = .ok (.invokestatic 52, 3) := by decide +kernel
theorem dX5_needFor_4 : decode cX5_needFor 4 = .ok (.ifCond .eq 12, 3) := by decide +kernel
theorem dX5_needFor_7 : decode cX5_needFor 7 = .ok (.iload_n 2, 1) := by decide +kernel
theorem dX5_needFor_8 : decode cX5_needFor 8 = .ok (.bipush 40, 2) := by decide +kernel
theorem dX5_needFor_10 : decode cX5_needFor 10 = .ok (.invokestatic 56, 3) := by decide +kernel
theorem dX5_needFor_13 : decode cX5_needFor 13 = .ok (.ifCond .ne 9, 3) := by decide +kernel
theorem dX5_needFor_16 : decode cX5_needFor 16 = .ok (.aload_n 0, 1) := by decide +kernel
theorem dX5_needFor_17 : decode cX5_needFor 17 = .ok (.iconst 0, 1) := by decide +kernel
theorem dX5_needFor_18 : decode cX5_needFor 18 = .ok (.invokevirtual 64, 3) := by decide +kernel
theorem dX5_needFor_21 : decode cX5_needFor 21 = .ok (.ireturn, 1) := by decide +kernel
theorem dX5_needFor_22 : decode cX5_needFor 22 = .ok (.bipush 99, 2) := by decide +kernel
theorem dX5_needFor_24 : decode cX5_needFor 24 = .ok (.istore_n 3, 1) := by decide +kernel
theorem dX5_needFor_25 : decode cX5_needFor 25 = .ok (.iload_n 3, 1) := by decide +kernel
theorem dX5_needFor_26 : decode cX5_needFor 26 = .ok (.ifCond .lt 22, 3) := by decide +kernel
theorem dX5_needFor_29 : decode cX5_needFor 29 = .ok (.aload_n 0, 1) := by decide +kernel
theorem dX5_needFor_30 : decode cX5_needFor 30 = .ok (.iconst 2, 1) := by decide +kernel
theorem dX5_needFor_31 : decode cX5_needFor 31 = .ok (.iload_n 3, 1) := by decide +kernel
theorem dX5_needFor_32 : decode cX5_needFor 32 = .ok (.iload_n 1, 1) := by decide +kernel
theorem dX5_needFor_33 : decode cX5_needFor 33 = .ok (.iload_n 2, 1) := by decide +kernel
theorem dX5_needFor_34 : decode cX5_needFor 34 = .ok (.invokevirtual 147, 3) := by decide +kernel
theorem dX5_needFor_37 : decode cX5_needFor 37 = .ok (.ifCond .eq 5, 3) := by decide +kernel
theorem dX5_needFor_40 : decode cX5_needFor 40 = .ok (.iload_n 3, 1) := by decide +kernel
theorem dX5_needFor_41 : decode cX5_needFor 41 = .ok (.ireturn, 1) := by decide +kernel
theorem dX5_needFor_42 : decode cX5_needFor 42 = .ok (.iinc 3 (-1), 3) := by decide +kernel
theorem dX5_needFor_45 : decode cX5_needFor 45 = .ok (.goto (-20), 3) := by decide +kernel
theorem dX5_needFor_48 : decode cX5_needFor 48 = .ok (.aload_n 0, 1) := by decide +kernel
theorem dX5_needFor_49 : decode cX5_needFor 49 = .ok (.iconst 3, 1) := by decide +kernel
theorem dX5_needFor_50 : decode cX5_needFor 50 = .ok (.invokevirtual 64, 3) := by decide +kernel
theorem dX5_needFor_53 : decode cX5_needFor 53 = .ok (.ireturn, 1) := by decide +kernel
theorem dX5_kindsFor_0 : decode cX5_kindsFor 0 = .ok (.iload_n 1, 1) := by decide +kernel
theorem dX5_kindsFor_1 : decode cX5_kindsFor 1 = .ok (.invokestatic 52, 3) := by decide +kernel
theorem dX5_kindsFor_4 : decode cX5_kindsFor 4 = .ok (.ifCond .eq 12, 3) := by decide +kernel
theorem dX5_kindsFor_7 : decode cX5_kindsFor 7 = .ok (.iload_n 2, 1) := by decide +kernel
theorem dX5_kindsFor_8 : decode cX5_kindsFor 8 = .ok (.bipush 40, 2) := by decide +kernel
theorem dX5_kindsFor_10 : decode cX5_kindsFor 10 = .ok (.invokestatic 56, 3) := by decide +kernel
theorem dX5_kindsFor_13 : decode cX5_kindsFor 13 = .ok (.ifCond .ne 9, 3) := by decide +kernel
theorem dX5_kindsFor_16 : decode cX5_kindsFor 16 = .ok (.aload_n 0, 1) := by decide +kernel
theorem dX5_kindsFor_17 : decode cX5_kindsFor 17 = .ok (.iconst 0, 1) := by decide +kernel
theorem dX5_kindsFor_18 : decode cX5_kindsFor 18 = .ok (.invokevirtual 64, 3) := by decide +kernel
theorem dX5_kindsFor_21 : decode cX5_kindsFor 21 = .ok (.ireturn, 1) := by decide +kernel
theorem dX5_kindsFor_22 : decode cX5_kindsFor 22 = .ok (.iconst 0, 1) := by decide +kernel
theorem dX5_kindsFor_23 : decode cX5_kindsFor 23 = .ok (.istore_n 3, 1) := by decide +kernel
theorem dX5_kindsFor_24 : decode cX5_kindsFor 24 = .ok (.iconst 0, 1) := by decide +kernel
theorem dX5_kindsFor_25 : decode cX5_kindsFor 25 = .ok (.istore 4, 2) := by decide +kernel
theorem dX5_kindsFor_27 : decode cX5_kindsFor 27 = .ok (.iload 4, 2) := by decide +kernel
theorem dX5_kindsFor_29 : decode cX5_kindsFor 29 = .ok (.bipush 7, 2) := by decide +kernel
theorem dX5_kindsFor_31 : decode cX5_kindsFor 31 = .ok (.if_icmp .ge 28, 3) := by decide +kernel
theorem dX5_kindsFor_34 : decode cX5_kindsFor 34 = .ok (.aload_n 0, 1) := by decide +kernel
theorem dX5_kindsFor_35 : decode cX5_kindsFor 35 = .ok (.iconst 0, 1) := by decide +kernel
theorem dX5_kindsFor_36 : decode cX5_kindsFor 36 = .ok (.iload 4, 2) := by decide +kernel
theorem dX5_kindsFor_38 : decode cX5_kindsFor 38 = .ok (.iload_n 1, 1) := by decide +kernel
theorem dX5_kindsFor_39 : decode cX5_kindsFor 39 = .ok (.iload_n 2, 1) := by decide +kernel
theorem dX5_kindsFor_40 : decode cX5_kindsFor 40 = .ok (.invokevirtual 147, 3) := by decide +kernel
theorem dX5_kindsFor_43 : decode cX5_kindsFor 43 = .ok (.ifCond .eq 10, 3) := by decide +kernel
theorem dX5_kindsFor_46 : decode cX5_kindsFor 46 = .ok (.iload_n 3, 1) := by decide +kernel
theorem dX5_kindsFor_47 : decode cX5_kindsFor 47 = .ok (.iconst 1, 1) := by decide +kernel
theorem dX5_kindsFor_48 : decode cX5_kindsFor 48 = .ok (.iload 4, 2) := by decide +kernel
theorem dX5_kindsFor_50 : decode cX5_kindsFor 50 = .ok (.ishl, 1) := by decide +kernel
theorem dX5_kindsFor_51 : decode cX5_kindsFor 51 = .ok (.ior, 1) := by decide +kernel
theorem dX5_kindsFor_52 : decode cX5_kindsFor 52 = .ok (.istore_n 3, 1) := by decide +kernel
theorem dX5_kindsFor_53 : decode cX5_kindsFor 53 = .ok (.iinc 4 1, 3) := by decide +kernel
theorem dX5_kindsFor_56 : decode cX5_kindsFor 56 = .ok (.goto (-29), 3) := by decide +kernel
theorem dX5_kindsFor_59 : decode cX5_kindsFor 59 = .ok (.iload_n 3, 1) := by decide +kernel
theorem dX5_kindsFor_60 : decode cX5_kindsFor 60 = .ok (.ireturn, 1) := by decide +kernel
theorem dX5_kindFor_0 : decode cX5_kindFor 0 = .ok (.iload_n 1, 1) := by decide +kernel
theorem dX5_kindFor_1 : decode cX5_kindFor 1 = .ok (.invokestatic 52, 3) := by decide +kernel
theorem dX5_kindFor_4 : decode cX5_kindFor 4 = .ok (.ifCond .eq 12, 3) := by decide +kernel
theorem dX5_kindFor_7 : decode cX5_kindFor 7 = .ok (.iload_n 2, 1) := by decide +kernel
theorem dX5_kindFor_8 : decode cX5_kindFor 8 = .ok (.bipush 40, 2) := by decide +kernel
theorem dX5_kindFor_10 : decode cX5_kindFor 10 = .ok (.invokestatic 56, 3) := by decide +kernel
theorem dX5_kindFor_13 : decode cX5_kindFor 13 = .ok (.ifCond .ne 9, 3) := by decide +kernel
theorem dX5_kindFor_16 : decode cX5_kindFor 16 = .ok (.aload_n 0, 1) := by decide +kernel
theorem dX5_kindFor_17 : decode cX5_kindFor 17 = .ok (.iconst 0, 1) := by decide +kernel
theorem dX5_kindFor_18 : decode cX5_kindFor 18 = .ok (.invokevirtual 64, 3) := by decide +kernel
theorem dX5_kindFor_21 : decode cX5_kindFor 21 = .ok (.ireturn, 1) := by decide +kernel
theorem dX5_kindFor_22 : decode cX5_kindFor 22 = .ok (.iconst (-1), 1) := by decide +kernel
theorem dX5_kindFor_23 : decode cX5_kindFor 23 = .ok (.istore_n 3, 1) := by decide +kernel
theorem dX5_kindFor_24 : decode cX5_kindFor 24 = .ok (.iconst 0, 1) := by decide +kernel
theorem dX5_kindFor_25 : decode cX5_kindFor 25 = .ok (.istore 4, 2) := by decide +kernel
theorem dX5_kindFor_27 : decode cX5_kindFor 27 = .ok (.iconst 0, 1) := by decide +kernel
theorem dX5_kindFor_28 : decode cX5_kindFor 28 = .ok (.istore 5, 2) := by decide +kernel
theorem dX5_kindFor_30 : decode cX5_kindFor 30 = .ok (.iload 5, 2) := by decide +kernel
theorem dX5_kindFor_32 : decode cX5_kindFor 32 = .ok (.bipush 7, 2) := by decide +kernel
theorem dX5_kindFor_34 : decode cX5_kindFor 34 = .ok (.if_icmp .ge 51, 3) := by decide +kernel
theorem dX5_kindFor_37 : decode cX5_kindFor 37 = .ok (.aload_n 0, 1) := by decide +kernel
theorem dX5_kindFor_38 : decode cX5_kindFor 38 = .ok (.iconst 0, 1) := by decide +kernel
theorem dX5_kindFor_39 : decode cX5_kindFor 39 = .ok (.iload 5, 2) := by decide +kernel
theorem dX5_kindFor_41 : decode cX5_kindFor 41 = .ok (.iload_n 1, 1) := by decide +kernel
theorem dX5_kindFor_42 : decode cX5_kindFor 42 = .ok (.invokevirtual 151, 3) := by decide +kernel
theorem dX5_kindFor_45 : decode cX5_kindFor 45 = .ok (.aload_n 0, 1) := by decide +kernel
theorem dX5_kindFor_46 : decode cX5_kindFor 46 = .ok (.getfield 19, 3) := by decide +kernel
theorem dX5_kindFor_49 : decode cX5_kindFor 49 = .ok (.iload_n 2, 1) := by decide +kernel
theorem dX5_kindFor_50 : decode cX5_kindFor 50 = .ok (.bipush 10, 2) := by decide +kernel
theorem dX5_kindFor_52 : decode cX5_kindFor 52 = .ok (.invokevirtual 110, 3) := by decide +kernel
theorem dX5_kindFor_55 : decode cX5_kindFor 55 = .ok (.pop, 1) := by decide +kernel
theorem dX5_kindFor_56 : decode cX5_kindFor 56 = .ok (.aload_n 0, 1) := by decide +kernel
theorem dX5_kindFor_57 : decode cX5_kindFor 57 = .ok (.getfield 19, 3) := by decide +kernel
theorem dX5_kindFor_60 : decode cX5_kindFor 60 = .ok (.getfield 114, 3) := by decide +kernel
theorem dX5_kindFor_63 : decode cX5_kindFor 63 = .ok (.iload_n 3, 1) := by decide +kernel
theorem dX5_kindFor_64 : decode cX5_kindFor 64 = .ok (.if_icmp .le 15, 3) := by decide +kernel
theorem dX5_kindFor_67 : decode cX5_kindFor 67 = .ok (.aload_n 0, 1) := by decide +kernel
theorem dX5_kindFor_68 : decode cX5_kindFor 68 = .ok (.getfield 19, 3) := by decide +kernel
theorem dX5_kindFor_71 : decode cX5_kindFor 71 = .ok (.getfield 114, 3) := by decide +kernel
theorem dX5_kindFor_74 : decode cX5_kindFor 74 = .ok (.istore_n 3, 1) := by decide +kernel
theorem dX5_kindFor_75 : decode cX5_kindFor 75 = .ok (.iload 5, 2) := by decide +kernel
theorem dX5_kindFor_77 : decode cX5_kindFor 77 = .ok (.istore 4, 2) := by decide +kernel
theorem dX5_kindFor_79 : decode cX5_kindFor 79 = .ok (.iinc 5 1, 3) := by decide +kernel
theorem dX5_kindFor_82 : decode cX5_kindFor 82 = .ok (.goto (-52), 3) := by decide +kernel
theorem dX5_kindFor_85 : decode cX5_kindFor 85 = .ok (.iload 4, 2) := by decide +kernel
theorem dX5_kindFor_87 : decode cX5_kindFor 87 = .ok (.ireturn, 1) := by decide +kernel
theorem dX5_turn_0 : decode cX5_turn 0 = .ok (.iload_n 1, 1) := by decide +kernel
theorem dX5_turn_1 : decode cX5_turn 1 = .ok (.sipush 2047, 3) := by decide +kernel
theorem dX5_turn_4 : decode cX5_turn 4 = .ok (.invokestatic 56, 3) := by decide +kernel
theorem dX5_turn_7 : decode cX5_turn 7 = .ok (.ifCond .eq 12, 3) := by decide +kernel
theorem dX5_turn_10 : decode cX5_turn 10 = .ok (.iload_n 2, 1) := by decide +kernel
theorem dX5_turn_11 : decode cX5_turn 11 = .ok (.bipush 12, 2) := by decide +kernel
theorem dX5_turn_13 : decode cX5_turn 13 = .ok (.invokestatic 56, 3) := by decide +kernel
theorem dX5_turn_16 : decode cX5_turn 16 = .ok (.ifCond .ne 9, 3) := by decide +kernel
theorem dX5_turn_19 : decode cX5_turn 19 = .ok (.aload_n 0, 1) := by decide +kernel
theorem dX5_turn_20 : decode cX5_turn 20 = .ok (.iconst 0, 1) := by decide +kernel
theorem dX5_turn_21 : decode cX5_turn 21 = .ok (.invokevirtual 64, 3) := by decide +kernel
theorem dX5_turn_24 : decode cX5_turn 24 = .ok (.ireturn, 1) := by decide +kernel
theorem dX5_turn_25 : decode cX5_turn 25 = .ok (.iload_n 1, 1) := by decide +kernel
theorem dX5_turn_26 : decode cX5_turn 26 = .ok (.invokestatic 155, 3) := by decide +kernel
theorem dX5_turn_29 : decode cX5_turn 29 = .ok (.istore_n 3, 1) := by decide +kernel
theorem dX5_turn_30 : decode cX5_turn 30 = .ok (.iconst 0, 1) := by decide +kernel
theorem dX5_turn_31 : decode cX5_turn 31 = .ok (.istore 4, 2) := by decide +kernel
theorem dX5_turn_33 : decode cX5_turn 33 = .ok (.iload 4, 2) := by decide +kernel
theorem dX5_turn_35 : decode cX5_turn 35 = .ok (.iload_n 3, 1) := by decide +kernel
theorem dX5_turn_36 : decode cX5_turn 36 = .ok (.if_icmp .gt 51, 3) := by decide +kernel
theorem dX5_turn_39 : decode cX5_turn 39 = .ok (.iconst 0, 1) := by decide +kernel
theorem dX5_turn_40 : decode cX5_turn 40 = .ok (.istore 5, 2) := by decide +kernel
theorem dX5_turn_42 : decode cX5_turn 42 = .ok (.iload 5, 2) := by decide +kernel
theorem dX5_turn_44 : decode cX5_turn 44 = .ok (.iconst 1, 1) := by decide +kernel
theorem dX5_turn_45 : decode cX5_turn 45 = .ok (.iload_n 3, 1) := by decide +kernel
theorem dX5_turn_46 : decode cX5_turn 46 = .ok (.ishl, 1) := by decide +kernel
theorem dX5_turn_47 : decode cX5_turn 47 = .ok (.if_icmp .ge 34, 3) := by decide +kernel
theorem dX5_turn_50 : decode cX5_turn 50 = .ok (.iload 5, 2) := by decide +kernel
theorem dX5_turn_52 : decode cX5_turn 52 = .ok (.invokestatic 158, 3) := by decide +kernel
theorem dX5_turn_55 : decode cX5_turn 55 = .ok (.iload 4, 2) := by decide +kernel
theorem dX5_turn_57 : decode cX5_turn 57 = .ok (.if_icmp .ne 18, 3) := by decide +kernel
theorem dX5_turn_60 : decode cX5_turn 60 = .ok (.aload_n 0, 1) := by decide +kernel
theorem dX5_turn_61 : decode cX5_turn 61 = .ok (.iload 5, 2) := by decide +kernel
theorem dX5_turn_63 : decode cX5_turn 63 = .ok (.iload_n 1, 1) := by decide +kernel
theorem dX5_turn_64 : decode cX5_turn 64 = .ok (.iload_n 3, 1) := by decide +kernel
theorem dX5_turn_65 : decode cX5_turn 65 = .ok (.iload_n 2, 1) := by decide +kernel
theorem dX5_turn_66 : decode cX5_turn 66 = .ok (.invokevirtual 163, 3) := by decide +kernel
theorem dX5_turn_69 : decode cX5_turn 69 = .ok (.ifCond .eq 6, 3) := by decide +kernel
theorem dX5_turn_72 : decode cX5_turn 72 = .ok (.iload 5, 2) := by decide +kernel
theorem dX5_turn_74 : decode cX5_turn 74 = .ok (.ireturn, 1) := by decide +kernel
theorem dX5_turn_75 : decode cX5_turn 75 = .ok (.iinc 5 1, 3) := by decide +kernel
theorem dX5_turn_78 : decode cX5_turn 78 = .ok (.goto (-36), 3) := by decide +kernel
theorem dX5_turn_81 : decode cX5_turn 81 = .ok (.iinc 4 1, 3) := by decide +kernel
theorem dX5_turn_84 : decode cX5_turn 84 = .ok (.goto (-51), 3) := by decide +kernel
theorem dX5_turn_87 : decode cX5_turn 87 = .ok (.aload_n 0, 1) := by decide +kernel
theorem dX5_turn_88 : decode cX5_turn 88 = .ok (.iconst 3, 1) := by decide +kernel
theorem dX5_turn_89 : decode cX5_turn 89 = .ok (.invokevirtual 64, 3) := by decide +kernel
theorem dX5_turn_92 : decode cX5_turn 92 = .ok (.ireturn, 1) := by decide +kernel
theorem dX5_best_0 : decode cX5_best 0 = .ok (.iload_n 1, 1) := by decide +kernel
theorem dX5_best_1 : decode cX5_best 1 = .ok (.bipush 40, 2) := by decide +kernel
theorem dX5_best_3 : decode cX5_best 3 = .ok (.invokestatic 56, 3) := by decide +kernel
theorem dX5_best_6 : decode cX5_best 6 = .ok (.ifCond .ne 9, 3) := by decide +kernel
theorem dX5_best_9 : decode cX5_best 9 = .ok (.aload_n 0, 1) := by decide +kernel
theorem dX5_best_10 : decode cX5_best 10 = .ok (.iconst 0, 1) := by decide +kernel
theorem dX5_best_11 : decode cX5_best 11 = .ok (.invokevirtual 64, 3) := by decide +kernel
theorem dX5_best_14 : decode cX5_best 14 = .ok (.ireturn, 1) := by decide +kernel
theorem dX5_best_15 : decode cX5_best 15 = .ok (.bipush 12, 2) := by decide +kernel
theorem dX5_best_17 : decode cX5_best 17 = .ok (.istore_n 2, 1) := by decide +kernel
theorem dX5_best_18 : decode cX5_best 18 = .ok (.iconst 0, 1) := by decide +kernel
theorem dX5_best_19 : decode cX5_best 19 = .ok (.istore_n 3, 1) := by decide +kernel
theorem dX5_best_20 : decode cX5_best 20 = .ok (.iconst 0, 1) := by decide +kernel
theorem dX5_best_21 : decode cX5_best 21 = .ok (.istore 4, 2) := by decide +kernel
theorem dX5_best_23 : decode cX5_best 23 = .ok (.iload 4, 2) := by decide +kernel
theorem dX5_best_25 : decode cX5_best 25 = .ok (.bipush 11, 2) := by decide +kernel
theorem dX5_best_27 : decode cX5_best 27 = .ok (.if_icmp .ge 44, 3) := by decide +kernel
theorem dX5_best_30 : decode cX5_best 30 = .ok (.aload_n 0, 1) := by decide +kernel
theorem dX5_best_31 : decode cX5_best 31 = .ok (.iconst 1, 1) := by decide +kernel
theorem dX5_best_32 : decode cX5_best 32 = .ok (.iload 4, 2) := by decide +kernel
theorem dX5_best_34 : decode cX5_best 34 = .ok (.ishl, 1) := by decide +kernel
theorem dX5_best_35 : decode cX5_best 35 = .ok (.invokevirtual 166, 3) := by decide +kernel
theorem dX5_best_38 : decode cX5_best 38 = .ok (.aload_n 0, 1) := by decide +kernel
theorem dX5_best_39 : decode cX5_best 39 = .ok (.getfield 19, 3) := by decide +kernel
theorem dX5_best_42 : decode cX5_best 42 = .ok (.iload_n 1, 1) := by decide +kernel
theorem dX5_best_43 : decode cX5_best 43 = .ok (.bipush 10, 2) := by decide +kernel
theorem dX5_best_45 : decode cX5_best 45 = .ok (.invokevirtual 110, 3) := by decide +kernel
theorem dX5_best_48 : decode cX5_best 48 = .ok (.invokestatic 158, 3) := by decide +kernel
theorem dX5_best_51 : decode cX5_best 51 = .ok (.istore 5, 2) := by decide +kernel
theorem dX5_best_53 : decode cX5_best 53 = .ok (.iload 5, 2) := by decide +kernel
theorem dX5_best_55 : decode cX5_best 55 = .ok (.iload_n 2, 1) := by decide +kernel
theorem dX5_best_56 : decode cX5_best 56 = .ok (.if_icmp .ge 9, 3) := by decide +kernel
theorem dX5_best_59 : decode cX5_best 59 = .ok (.iload 5, 2) := by decide +kernel
theorem dX5_best_61 : decode cX5_best 61 = .ok (.istore_n 2, 1) := by decide +kernel
theorem dX5_best_62 : decode cX5_best 62 = .ok (.iload 4, 2) := by decide +kernel
theorem dX5_best_64 : decode cX5_best 64 = .ok (.istore_n 3, 1) := by decide +kernel
theorem dX5_best_65 : decode cX5_best 65 = .ok (.iinc 4 1, 3) := by decide +kernel
theorem dX5_best_68 : decode cX5_best 68 = .ok (.goto (-45), 3) := by decide +kernel
theorem dX5_best_71 : decode cX5_best 71 = .ok (.iload_n 3, 1) := by decide +kernel
theorem dX5_best_72 : decode cX5_best 72 = .ok (.ireturn, 1) := by decide +kernel
theorem dX5_love_0 : decode cX5_love 0 = .ok (.iload_n 1, 1) := by decide +kernel
theorem dX5_love_1 : decode cX5_love 1 = .ok (.invokestatic 52, 3) := by decide +kernel
theorem dX5_love_4 : decode cX5_love 4 = .ok (.ifCond .eq 12, 3) := by decide +kernel
theorem dX5_love_7 : decode cX5_love 7 = .ok (.iload_n 2, 1) := by decide +kernel
theorem dX5_love_8 : decode cX5_love 8 = .ok (.bipush 40, 2) := by decide +kernel
theorem dX5_love_10 : decode cX5_love 10 = .ok (.invokestatic 56, 3) := by decide +kernel
theorem dX5_love_13 : decode cX5_love 13 = .ok (.ifCond .ne 9, 3) := by decide +kernel
theorem dX5_love_16 : decode cX5_love 16 = .ok (.aload_n 0, 1) := by decide +kernel
theorem dX5_love_17 : decode cX5_love 17 = .ok (.iconst 0, 1) := by decide +kernel
theorem dX5_love_18 : decode cX5_love 18 = .ok (.invokevirtual 64, 3) := by decide +kernel
theorem dX5_love_21 : decode cX5_love 21 = .ok (.ireturn, 1) := by decide +kernel
theorem dX5_love_22 : decode cX5_love 22 = .ok (.iconst (-1), 1) := by decide +kernel
theorem dX5_love_23 : decode cX5_love 23 = .ok (.istore_n 3, 1) := by decide +kernel
theorem dX5_love_24 : decode cX5_love 24 = .ok (.iconst 0, 1) := by decide +kernel
theorem dX5_love_25 : decode cX5_love 25 = .ok (.istore 4, 2) := by decide +kernel
theorem dX5_love_27 : decode cX5_love 27 = .ok (.iconst 0, 1) := by decide +kernel
theorem dX5_love_28 : decode cX5_love 28 = .ok (.istore 5, 2) := by decide +kernel
theorem dX5_love_30 : decode cX5_love 30 = .ok (.iload 5, 2) := by decide +kernel
theorem dX5_love_32 : decode cX5_love 32 = .ok (.bipush 11, 2) := by decide +kernel
theorem dX5_love_34 : decode cX5_love 34 = .ok (.if_icmp .ge 54, 3) := by decide +kernel
theorem dX5_love_37 : decode cX5_love 37 = .ok (.aload_n 0, 1) := by decide +kernel
theorem dX5_love_38 : decode cX5_love 38 = .ok (.iconst 1, 1) := by decide +kernel
theorem dX5_love_39 : decode cX5_love 39 = .ok (.iload 5, 2) := by decide +kernel
theorem dX5_love_41 : decode cX5_love 41 = .ok (.ishl, 1) := by decide +kernel
theorem dX5_love_42 : decode cX5_love 42 = .ok (.invokevirtual 166, 3) := by decide +kernel
theorem dX5_love_45 : decode cX5_love 45 = .ok (.aload_n 0, 1) := by decide +kernel
theorem dX5_love_46 : decode cX5_love 46 = .ok (.getfield 19, 3) := by decide +kernel
theorem dX5_love_49 : decode cX5_love 49 = .ok (.iload_n 2, 1) := by decide +kernel
theorem dX5_love_50 : decode cX5_love 50 = .ok (.iload_n 1, 1) := by decide +kernel
theorem dX5_love_51 : decode cX5_love 51 = .ok (.invokevirtual 110, 3) := by decide +kernel
theorem dX5_love_54 : decode cX5_love 54 = .ok (.pop, 1) := by decide +kernel
theorem dX5_love_55 : decode cX5_love 55 = .ok (.aload_n 0, 1) := by decide +kernel
theorem dX5_love_56 : decode cX5_love 56 = .ok (.getfield 19, 3) := by decide +kernel
theorem dX5_love_59 : decode cX5_love 59 = .ok (.getfield 103, 3) := by decide +kernel
theorem dX5_love_62 : decode cX5_love 62 = .ok (.iload_n 1, 1) := by decide +kernel
theorem dX5_love_63 : decode cX5_love 63 = .ok (.iaload, 1) := by decide +kernel
theorem dX5_love_64 : decode cX5_love 64 = .ok (.iload_n 3, 1) := by decide +kernel
theorem dX5_love_65 : decode cX5_love 65 = .ok (.if_icmp .le 17, 3) := by decide +kernel
theorem dX5_love_68 : decode cX5_love 68 = .ok (.aload_n 0, 1) := by decide +kernel
theorem dX5_love_69 : decode cX5_love 69 = .ok (.getfield 19, 3) := by decide +kernel
theorem dX5_love_72 : decode cX5_love 72 = .ok (.getfield 103, 3) := by decide +kernel
theorem dX5_love_75 : decode cX5_love 75 = .ok (.iload_n 1, 1) := by decide +kernel
theorem dX5_love_76 : decode cX5_love 76 = .ok (.iaload, 1) := by decide +kernel
theorem dX5_love_77 : decode cX5_love 77 = .ok (.istore_n 3, 1) := by decide +kernel
theorem dX5_love_78 : decode cX5_love 78 = .ok (.iload 5, 2) := by decide +kernel
theorem dX5_love_80 : decode cX5_love 80 = .ok (.istore 4, 2) := by decide +kernel
theorem dX5_love_82 : decode cX5_love 82 = .ok (.iinc 5 1, 3) := by decide +kernel
theorem dX5_love_85 : decode cX5_love 85 = .ok (.goto (-55), 3) := by decide +kernel
theorem dX5_love_88 : decode cX5_love 88 = .ok (.iload 4, 2) := by decide +kernel
theorem dX5_love_90 : decode cX5_love 90 = .ok (.ireturn, 1) := by decide +kernel
theorem dX5_burst_0 : decode cX5_burst 0 = .ok (.iload_n 1, 1) := by decide +kernel
theorem dX5_burst_1 : decode cX5_burst 1 = .ok (.invokestatic 52, 3) := by decide +kernel
theorem dX5_burst_4 : decode cX5_burst 4 = .ok (.ifCond .eq 22, 3) := by decide +kernel
theorem dX5_burst_7 : decode cX5_burst 7 = .ok (.iload_n 2, 1) := by decide +kernel
theorem dX5_burst_8 : decode cX5_burst 8 = .ok (.sipush 9999, 3) := by decide +kernel
theorem dX5_burst_11 : decode cX5_burst 11 = .ok (.invokestatic 56, 3) := by decide +kernel
theorem dX5_burst_14 : decode cX5_burst 14 = .ok (.ifCond .eq 12, 3) := by decide +kernel
theorem dX5_burst_17 : decode cX5_burst 17 = .ok (.iload_n 3, 1) := by decide +kernel
theorem dX5_burst_18 : decode cX5_burst 18 = .ok (.bipush 40, 2) := by decide +kernel
theorem dX5_burst_20 : decode cX5_burst 20 = .ok (.invokestatic 56, 3) := by decide +kernel
theorem dX5_burst_23 : decode cX5_burst 23 = .ok (.ifCond .ne 9, 3) := by decide +kernel
theorem dX5_burst_26 : decode cX5_burst 26 = .ok (.aload_n 0, 1) := by decide +kernel
theorem dX5_burst_27 : decode cX5_burst 27 = .ok (.iconst 0, 1) := by decide +kernel
theorem dX5_burst_28 : decode cX5_burst 28 = .ok (.invokevirtual 64, 3) := by decide +kernel
theorem dX5_burst_31 : decode cX5_burst 31 = .ok (.ireturn, 1) := by decide +kernel
theorem dX5_burst_32 : decode cX5_burst 32 = .ok (.aload_n 0, 1) := by decide +kernel
theorem dX5_burst_33 : decode cX5_burst 33 = .ok (.getfield 19, 3) := by decide +kernel
theorem dX5_burst_36 : decode cX5_burst 36 = .ok (.aload_n 0, 1) := by decide +kernel
theorem dX5_burst_37 : decode cX5_burst 37 = .ok (.getfield 10, 3) := by decide +kernel
theorem dX5_burst_40 : decode cX5_burst 40 = .ok (.invokevirtual 126, 3) := by decide +kernel
theorem dX5_burst_43 : decode cX5_burst 43 = .ok (.aload_n 0, 1) := by decide +kernel
theorem dX5_burst_44 : decode cX5_burst 44 = .ok (.getfield 19, 3) := by decide +kernel
theorem dX5_burst_47 : decode cX5_burst 47 = .ok (.iload_n 3, 1) := by decide +kernel
theorem dX5_burst_48 : decode cX5_burst 48 = .ok (.bipush 10, 2) := by decide +kernel
theorem dX5_burst_50 : decode cX5_burst 50 = .ok (.invokevirtual 110, 3) := by decide +kernel
theorem dX5_burst_53 : decode cX5_burst 53 = .ok (.pop, 1) := by decide +kernel
theorem dX5_burst_54 : decode cX5_burst 54 = .ok (.aload_n 0, 1) := by decide +kernel
theorem dX5_burst_55 : decode cX5_burst 55 = .ok (.getfield 19, 3) := by decide +kernel
theorem dX5_burst_58 : decode cX5_burst 58 = .ok (.getfield 114, 3) := by decide +kernel
theorem dX5_burst_61 : decode cX5_burst 61 = .ok (.istore 4, 2) := by decide +kernel
theorem dX5_burst_63 : decode cX5_burst 63 = .ok (.aload_n 0, 1) := by decide +kernel
theorem dX5_burst_64 : decode cX5_burst 64 = .ok (.getfield 19, 3) := by decide +kernel
theorem dX5_burst_67 : decode cX5_burst 67 = .ok (.aload_n 0, 1) := by decide +kernel
theorem dX5_burst_68 : decode cX5_burst 68 = .ok (.getfield 10, 3) := by decide +kernel
theorem dX5_burst_71 : decode cX5_burst 71 = .ok (.invokevirtual 126, 3) := by decide +kernel
theorem dX5_burst_74 : decode cX5_burst 74 = .ok (.aload_n 0, 1) := by decide +kernel
theorem dX5_burst_75 : decode cX5_burst 75 = .ok (.getfield 19, 3) := by decide +kernel
theorem dX5_burst_78 : decode cX5_burst 78 = .ok (.iload_n 1, 1) := by decide +kernel
theorem dX5_burst_79 : decode cX5_burst 79 = .ok (.iload_n 2, 1) := by decide +kernel
theorem dX5_burst_80 : decode cX5_burst 80 = .ok (.invokevirtual 99, 3) := by decide +kernel
theorem dX5_burst_83 : decode cX5_burst 83 = .ok (.aload_n 0, 1) := by decide +kernel
theorem dX5_burst_84 : decode cX5_burst 84 = .ok (.getfield 19, 3) := by decide +kernel
theorem dX5_burst_87 : decode cX5_burst 87 = .ok (.iload_n 3, 1) := by decide +kernel
theorem dX5_burst_88 : decode cX5_burst 88 = .ok (.bipush 10, 2) := by decide +kernel
theorem dX5_burst_90 : decode cX5_burst 90 = .ok (.invokevirtual 110, 3) := by decide +kernel
theorem dX5_burst_93 : decode cX5_burst 93 = .ok (.pop, 1) := by decide +kernel
theorem dX5_burst_94 : decode cX5_burst 94 = .ok (.aload_n 0, 1) := by decide +kernel
theorem dX5_burst_95 : decode cX5_burst 95 = .ok (.getfield 19, 3) := by decide +kernel
theorem dX5_burst_98 : decode cX5_burst 98 = .ok (.getfield 114, 3) := by decide +kernel
theorem dX5_burst_101 : decode cX5_burst 101 = .ok (.iload 4, 2) := by decide +kernel
theorem dX5_burst_103 : decode cX5_burst 103 = .ok (.isub, 1) := by decide +kernel
theorem dX5_burst_104 : decode cX5_burst 104 = .ok (.ireturn, 1) := by decide +kernel
theorem dX5_turned_0 : decode cX5_turned 0 = .ok (.aload_n 0, 1) := by decide +kernel
theorem dX5_turned_1 : decode cX5_turned 1 = .ok (.iload_n 1, 1) := by decide +kernel
theorem dX5_turned_2 : decode cX5_turned 2 = .ok (.invokevirtual 170, 3) := by decide +kernel
theorem dX5_turned_5 : decode cX5_turned 5 = .ok (.istore_n 3, 1) := by decide +kernel
theorem dX5_turned_6 : decode cX5_turned 6 = .ok (.iload_n 3, 1) := by decide +kernel
theorem dX5_turned_7 : decode cX5_turned 7 = .ok (.ifCond .eq 5, 3) := by decide +kernel
theorem dX5_turned_10 : decode cX5_turned 10 = .ok (.iload_n 3, 1) := by decide +kernel
theorem dX5_turned_11 : decode cX5_turned 11 = .ok (.ireturn, 1) := by decide +kernel
theorem dX5_turned_12 : decode cX5_turned 12 = .ok (.iload_n 2, 1) := by decide +kernel
theorem dX5_turned_13 : decode cX5_turned 13 = .ok (.invokestatic 52, 3) := by decide +kernel
theorem dX5_turned_16 : decode cX5_turned 16 = .ok (.ifCond .ne 9, 3) := by decide +kernel
theorem dX5_turned_19 : decode cX5_turned 19 = .ok (.aload_n 0, 1) := by decide +kernel
theorem dX5_turned_20 : decode cX5_turned 20 = .ok (.iconst 0, 1) := by decide +kernel
theorem dX5_turned_21 : decode cX5_turned 21 = .ok (.invokevirtual 64, 3) := by decide +kernel
theorem dX5_turned_24 : decode cX5_turned 24 = .ok (.ireturn, 1) := by decide +kernel
theorem dX5_turned_25 : decode cX5_turned 25 = .ok (.iconst 0, 1) := by decide +kernel
theorem dX5_turned_26 : decode cX5_turned 26 = .ok (.istore 4, 2) := by decide +kernel
theorem dX5_turned_28 : decode cX5_turned 28 = .ok (.iconst 0, 1) := by decide +kernel
theorem dX5_turned_29 : decode cX5_turned 29 = .ok (.istore 5, 2) := by decide +kernel
theorem dX5_turned_31 : decode cX5_turned 31 = .ok (.iload 5, 2) := by decide +kernel
theorem dX5_turned_33 : decode cX5_turned 33 = .ok (.bipush 11, 2) := by decide +kernel
theorem dX5_turned_35 : decode cX5_turned 35 = .ok (.if_icmp .ge 40, 3) := by decide +kernel
theorem dX5_turned_38 : decode cX5_turned 38 = .ok (.aload_n 0, 1) := by decide +kernel
theorem dX5_turned_39 : decode cX5_turned 39 = .ok (.iconst 1, 1) := by decide +kernel
theorem dX5_turned_40 : decode cX5_turned 40 = .ok (.iload 5, 2) := by decide +kernel
theorem dX5_turned_42 : decode cX5_turned 42 = .ok (.ishl, 1) := by decide +kernel
theorem dX5_turned_43 : decode cX5_turned 43 = .ok (.invokevirtual 166, 3) := by decide +kernel
theorem dX5_turned_46 : decode cX5_turned 46 = .ok (.aload_n 0, 1) := by decide +kernel
theorem dX5_turned_47 : decode cX5_turned 47 = .ok (.aload_n 0, 1) := by decide +kernel
theorem dX5_turned_48 : decode cX5_turned 48 = .ok (.getfield 44, 3) := by decide +kernel
theorem dX5_turned_51 : decode cX5_turned 51 = .ok (.iload_n 1, 1) := by decide +kernel
theorem dX5_turned_52 : decode cX5_turned 52 = .ok (.aaload, 1) := by decide +kernel
theorem dX5_turned_53 : decode cX5_turned 53 = .ok (.iload_n 2, 1) := by decide +kernel
theorem dX5_turned_54 : decode cX5_turned 54 = .ok (.invokevirtual 173, 3) := by decide +kernel
theorem dX5_turned_57 : decode cX5_turned 57 = .ok (.ifCond .eq 12, 3) := by decide +kernel
theorem dX5_turned_60 : decode cX5_turned 60 = .ok (.iload 4, 2) := by decide +kernel
theorem dX5_turned_62 : decode cX5_turned 62 = .ok (.iconst 1, 1) := by decide +kernel
theorem dX5_turned_63 : decode cX5_turned 63 = .ok (.iload 5, 2) := by decide +kernel
theorem dX5_turned_65 : decode cX5_turned 65 = .ok (.ishl, 1) := by decide +kernel
theorem dX5_turned_66 : decode cX5_turned 66 = .ok (.ior, 1) := by decide +kernel
theorem dX5_turned_67 : decode cX5_turned 67 = .ok (.istore 4, 2) := by decide +kernel
theorem dX5_turned_69 : decode cX5_turned 69 = .ok (.iinc 5 1, 3) := by decide +kernel
theorem dX5_turned_72 : decode cX5_turned 72 = .ok (.goto (-41), 3) := by decide +kernel
theorem dX5_turned_75 : decode cX5_turned 75 = .ok (.iload 4, 2) := by decide +kernel
theorem dX5_turned_77 : decode cX5_turned 77 = .ok (.ireturn, 1) := by decide +kernel
theorem dX5_kinds_0 : decode cX5_kinds 0 = .ok (.aload_n 0, 1) := by decide +kernel
theorem dX5_kinds_1 : decode cX5_kinds 1 = .ok (.iload_n 1, 1) := by decide +kernel
theorem dX5_kinds_2 : decode cX5_kinds 2 = .ok (.invokevirtual 170, 3) := by decide +kernel
theorem dX5_kinds_5 : decode cX5_kinds 5 = .ok (.istore_n 3, 1) := by decide +kernel
theorem dX5_kinds_6 : decode cX5_kinds 6 = .ok (.iload_n 3, 1) := by decide +kernel
theorem dX5_kinds_7 : decode cX5_kinds 7 = .ok (.ifCond .eq 5, 3) := by decide +kernel
theorem dX5_kinds_10 : decode cX5_kinds 10 = .ok (.iload_n 3, 1) := by decide +kernel
theorem dX5_kinds_11 : decode cX5_kinds 11 = .ok (.ireturn, 1) := by decide +kernel
theorem dX5_kinds_12 : decode cX5_kinds 12 = .ok (.iload_n 2, 1) := by decide +kernel
theorem dX5_kinds_13 : decode cX5_kinds 13 = .ok (.invokestatic 52, 3) := by decide +kernel
theorem dX5_kinds_16 : decode cX5_kinds 16 = .ok (.ifCond .ne 9, 3) := by decide +kernel
theorem dX5_kinds_19 : decode cX5_kinds 19 = .ok (.aload_n 0, 1) := by decide +kernel
theorem dX5_kinds_20 : decode cX5_kinds 20 = .ok (.iconst 0, 1) := by decide +kernel
theorem dX5_kinds_21 : decode cX5_kinds 21 = .ok (.invokevirtual 64, 3) := by decide +kernel
theorem dX5_kinds_24 : decode cX5_kinds 24 = .ok (.ireturn, 1) := by decide +kernel
theorem dX5_kinds_25 : decode cX5_kinds 25 = .ok (.iconst 0, 1) := by decide +kernel
theorem dX5_kinds_26 : decode cX5_kinds 26 = .ok (.istore 4, 2) := by decide +kernel
theorem dX5_kinds_28 : decode cX5_kinds 28 = .ok (.iconst 0, 1) := by decide +kernel
theorem dX5_kinds_29 : decode cX5_kinds 29 = .ok (.istore 5, 2) := by decide +kernel
theorem dX5_kinds_31 : decode cX5_kinds 31 = .ok (.iload 5, 2) := by decide +kernel
theorem dX5_kinds_33 : decode cX5_kinds 33 = .ok (.bipush 7, 2) := by decide +kernel
theorem dX5_kinds_35 : decode cX5_kinds 35 = .ok (.if_icmp .ge 40, 3) := by decide +kernel
theorem dX5_kinds_38 : decode cX5_kinds 38 = .ok (.aload_n 0, 1) := by decide +kernel
theorem dX5_kinds_39 : decode cX5_kinds 39 = .ok (.iconst 0, 1) := by decide +kernel
theorem dX5_kinds_40 : decode cX5_kinds 40 = .ok (.iload 5, 2) := by decide +kernel
theorem dX5_kinds_42 : decode cX5_kinds 42 = .ok (.iload_n 2, 1) := by decide +kernel
theorem dX5_kinds_43 : decode cX5_kinds 43 = .ok (.invokevirtual 151, 3) := by decide +kernel
theorem dX5_kinds_46 : decode cX5_kinds 46 = .ok (.aload_n 0, 1) := by decide +kernel
theorem dX5_kinds_47 : decode cX5_kinds 47 = .ok (.aload_n 0, 1) := by decide +kernel
theorem dX5_kinds_48 : decode cX5_kinds 48 = .ok (.getfield 44, 3) := by decide +kernel
theorem dX5_kinds_51 : decode cX5_kinds 51 = .ok (.iload_n 1, 1) := by decide +kernel
theorem dX5_kinds_52 : decode cX5_kinds 52 = .ok (.aaload, 1) := by decide +kernel
theorem dX5_kinds_53 : decode cX5_kinds 53 = .ok (.iload_n 2, 1) := by decide +kernel
theorem dX5_kinds_54 : decode cX5_kinds 54 = .ok (.invokevirtual 173, 3) := by decide +kernel
theorem dX5_kinds_57 : decode cX5_kinds 57 = .ok (.ifCond .eq 12, 3) := by decide +kernel
theorem dX5_kinds_60 : decode cX5_kinds 60 = .ok (.iload 4, 2) := by decide +kernel
theorem dX5_kinds_62 : decode cX5_kinds 62 = .ok (.iconst 1, 1) := by decide +kernel
theorem dX5_kinds_63 : decode cX5_kinds 63 = .ok (.iload 5, 2) := by decide +kernel
theorem dX5_kinds_65 : decode cX5_kinds 65 = .ok (.ishl, 1) := by decide +kernel
theorem dX5_kinds_66 : decode cX5_kinds 66 = .ok (.ior, 1) := by decide +kernel
theorem dX5_kinds_67 : decode cX5_kinds 67 = .ok (.istore 4, 2) := by decide +kernel
theorem dX5_kinds_69 : decode cX5_kinds 69 = .ok (.iinc 5 1, 3) := by decide +kernel
theorem dX5_kinds_72 : decode cX5_kinds 72 = .ok (.goto (-41), 3) := by decide +kernel
theorem dX5_kinds_75 : decode cX5_kinds 75 = .ok (.iload 4, 2) := by decide +kernel
theorem dX5_kinds_77 : decode cX5_kinds 77 = .ok (.ireturn, 1) := by decide +kernel
theorem dX5_showers_0 : decode cX5_showers 0 = .ok (.iload_n 1, 1) := by decide +kernel
theorem dX5_showers_1 : decode cX5_showers 1 = .ok (.iconst 1, 1) := by decide +kernel
theorem dX5_showers_2 : decode cX5_showers 2 = .ok (.if_icmp .lt 9, 3) := by decide +kernel
theorem dX5_showers_5 : decode cX5_showers 5 = .ok (.iload_n 1, 1) := by decide +kernel
theorem dX5_showers_6 : decode cX5_showers 6 = .ok (.bipush 20, 2) := by decide +kernel
theorem dX5_showers_8 : decode cX5_showers 8 = .ok (.if_icmp .le 9, 3) := by decide +kernel
theorem dX5_showers_11 : decode cX5_showers 11 = .ok (.aload_n 0, 1) := by decide +kernel
theorem dX5_showers_12 : decode cX5_showers 12 = .ok (.iconst 0, 1) := by decide +kernel
theorem dX5_showers_13 : decode cX5_showers 13 = .ok (.invokevirtual 64, 3) := by decide +kernel
theorem dX5_showers_16 : decode cX5_showers 16 = .ok (.ireturn, 1) := by decide +kernel
theorem dX5_showers_17 : decode cX5_showers 17 = .ok (.aload_n 0, 1) := by decide +kernel
theorem dX5_showers_18 : decode cX5_showers 18 = .ok (.getfield 10, 3) := by decide +kernel
theorem dX5_showers_21 : decode cX5_showers 21 = .ok (.getfield 106, 3) := by decide +kernel
theorem dX5_showers_24 : decode cX5_showers 24 = .ok (.iload_n 1, 1) := by decide +kernel
theorem dX5_showers_25 : decode cX5_showers 25 = .ok (.iadd, 1) := by decide +kernel
theorem dX5_showers_26 : decode cX5_showers 26 = .ok (.ldc 109, 2) := by decide +kernel
theorem dX5_showers_28 : decode cX5_showers 28 = .ok (.if_icmp .le 9, 3) := by decide +kernel
theorem dX5_showers_31 : decode cX5_showers 31 = .ok (.aload_n 0, 1) := by decide +kernel
theorem dX5_showers_32 : decode cX5_showers 32 = .ok (.iconst 4, 1) := by decide +kernel
theorem dX5_showers_33 : decode cX5_showers 33 = .ok (.invokevirtual 64, 3) := by decide +kernel
theorem dX5_showers_36 : decode cX5_showers 36 = .ok (.ireturn, 1) := by decide +kernel
theorem dX5_showers_37 : decode cX5_showers 37 = .ok (.iconst 0, 1) := by decide +kernel
theorem dX5_showers_38 : decode cX5_showers 38 = .ok (.istore_n 2, 1) := by decide +kernel
theorem dX5_showers_39 : decode cX5_showers 39 = .ok (.iconst 0, 1) := by decide +kernel
theorem dX5_showers_40 : decode cX5_showers 40 = .ok (.istore_n 3, 1) := by decide +kernel
theorem dX5_showers_41 : decode cX5_showers 41 = .ok (.iload_n 3, 1) := by decide +kernel
theorem dX5_showers_42 : decode cX5_showers 42 = .ok (.iload_n 1, 1) := by decide +kernel
theorem dX5_showers_43 : decode cX5_showers 43 = .ok (.if_icmp .ge 41, 3) := by decide +kernel
theorem dX5_showers_46 : decode cX5_showers 46 = .ok (.aload_n 0, 1) := by decide +kernel
theorem dX5_showers_47 : decode cX5_showers 47 = .ok (.getfield 10, 3) := by decide +kernel
theorem dX5_showers_50 : decode cX5_showers 50 = .ok (.aload_n 0, 1) := by decide +kernel
theorem dX5_showers_51 : decode cX5_showers 51 = .ok (.getfield 10, 3) := by decide +kernel
theorem dX5_showers_54 : decode cX5_showers 54 = .ok (.invokevirtual 177, 3) := by decide +kernel
theorem dX5_showers_57 : decode cX5_showers 57 = .ok (.bipush 100, 2) := by decide +kernel
theorem dX5_showers_59 : decode cX5_showers 59 = .ok (.irem, 1) := by decide +kernel
theorem dX5_showers_60 : decode cX5_showers 60 = .ok (.putfield 88, 3) := by decide +kernel
theorem dX5_showers_63 : decode cX5_showers 63 = .ok (.aload_n 0, 1) := by decide +kernel
theorem dX5_showers_64 : decode cX5_showers 64 = .ok (.getfield 10, 3) := by decide +kernel
theorem dX5_showers_67 : decode cX5_showers 67 = .ok (.bipush 10, 2) := by decide +kernel
theorem dX5_showers_69 : decode cX5_showers 69 = .ok (.invokevirtual 130, 3) := by decide +kernel
theorem dX5_showers_72 : decode cX5_showers 72 = .ok (.ifCond .eq 6, 3) := by decide +kernel
theorem dX5_showers_75 : decode cX5_showers 75 = .ok (.iinc 2 1, 3) := by decide +kernel
theorem dX5_showers_78 : decode cX5_showers 78 = .ok (.iinc 3 1, 3) := by decide +kernel
theorem dX5_showers_81 : decode cX5_showers 81 = .ok (.goto (-40), 3) := by decide +kernel
theorem dX5_showers_84 : decode cX5_showers 84 = .ok (.iload_n 2, 1) := by decide +kernel
theorem dX5_showers_85 : decode cX5_showers 85 = .ok (.ireturn, 1) := by decide +kernel
theorem dX5_odds_0 : decode cX5_odds 0 = .ok (.iload_n 1, 1) := by decide +kernel
theorem dX5_odds_1 : decode cX5_odds 1 = .ok (.bipush 100, 2) := by decide +kernel
theorem dX5_odds_3 : decode cX5_odds 3 = .ok (.invokestatic 56, 3) := by decide +kernel
theorem dX5_odds_6 : decode cX5_odds 6 = .ok (.ifCond .eq 20, 3) := by decide +kernel
theorem dX5_odds_9 : decode cX5_odds 9 = .ok (.iload_n 2, 1) := by decide +kernel
theorem dX5_odds_10 : decode cX5_odds 10 = .ok (.bipush 9, 2) := by decide +kernel
theorem dX5_odds_12 : decode cX5_odds 12 = .ok (.invokestatic 56, 3) := by decide +kernel
theorem dX5_odds_15 : decode cX5_odds 15 = .ok (.ifCond .eq 11, 3) := by decide +kernel
theorem dX5_odds_18 : decode cX5_odds 18 = .ok (.iload_n 3, 1) := by decide +kernel
theorem dX5_odds_19 : decode cX5_odds 19 = .ok (.iconst 1, 1) := by decide +kernel
theorem dX5_odds_20 : decode cX5_odds 20 = .ok (.invokestatic 56, 3) := by decide +kernel
theorem dX5_odds_23 : decode cX5_odds 23 = .ok (.ifCond .ne 10, 3) := by decide +kernel
theorem dX5_odds_26 : decode cX5_odds 26 = .ok (.aload_n 0, 1) := by decide +kernel
theorem dX5_odds_27 : decode cX5_odds 27 = .ok (.iconst 0, 1) := by decide +kernel
theorem dX5_odds_28 : decode cX5_odds 28 = .ok (.invokevirtual 64, 3) := by decide +kernel
theorem dX5_odds_31 : decode cX5_odds 31 = .ok (.i2l, 1) := by decide +kernel
theorem dX5_odds_32 : decode cX5_odds 32 = .ok (.lreturn, 1) := by decide +kernel
theorem dX5_odds_33 : decode cX5_odds 33 = .ok (.bipush 100, 2) := by decide +kernel
theorem dX5_odds_35 : decode cX5_odds 35 = .ok (.iload_n 1, 1) := by decide +kernel
theorem dX5_odds_36 : decode cX5_odds 36 = .ok (.isub, 1) := by decide +kernel
theorem dX5_odds_37 : decode cX5_odds 37 = .ok (.istore 4, 2) := by decide +kernel
theorem dX5_odds_39 : decode cX5_odds 39 = .ok (.bipush 100, 2) := by decide +kernel
theorem dX5_odds_41 : decode cX5_odds 41 = .ok (.istore 5, 2) := by decide +kernel
theorem dX5_odds_43 : decode cX5_odds 43 = .ok (.iload 5, 2) := by decide +kernel
theorem dX5_odds_45 : decode cX5_odds 45 = .ok (.iconst 1, 1) := by decide +kernel
theorem dX5_odds_46 : decode cX5_odds 46 = .ok (.if_icmp .le 25, 3) := by decide +kernel
theorem dX5_odds_49 : decode cX5_odds 49 = .ok (.iload 4, 2) := by decide +kernel
theorem dX5_odds_51 : decode cX5_odds 51 = .ok (.iload 5, 2) := by decide +kernel
theorem dX5_odds_53 : decode cX5_odds 53 = .ok (.irem, 1) := by decide +kernel
theorem dX5_odds_54 : decode cX5_odds 54 = .ok (.ifCond .ne 11, 3) := by decide +kernel
theorem dX5_odds_57 : decode cX5_odds 57 = .ok (.bipush 100, 2) := by decide +kernel
theorem dX5_odds_59 : decode cX5_odds 59 = .ok (.iload 5, 2) := by decide +kernel
theorem dX5_odds_61 : decode cX5_odds 61 = .ok (.irem, 1) := by decide +kernel
theorem dX5_odds_62 : decode cX5_odds 62 = .ok (.ifCond .eq 9, 3) := by decide +kernel
theorem dX5_odds_65 : decode cX5_odds 65 = .ok (.iinc 5 (-1), 3) := by decide +kernel
theorem dX5_odds_68 : decode cX5_odds 68 = .ok (.goto (-25), 3) := by decide +kernel
theorem dX5_odds_71 : decode cX5_odds 71 = .ok (.iload_n 3, 1) := by decide +kernel
theorem dX5_odds_72 : decode cX5_odds 72 = .ok (.ifCond .ne 8, 3) := by decide +kernel
theorem dX5_odds_75 : decode cX5_odds 75 = .ok (.iload 4, 2) := by decide +kernel
theorem dX5_odds_77 : decode cX5_odds 77 = .ok (.goto 5, 3) := by decide +kernel
theorem dX5_odds_80 : decode cX5_odds 80 = .ok (.bipush 100, 2) := by decide +kernel
theorem dX5_odds_82 : decode cX5_odds 82 = .ok (.iload 5, 2) := by decide +kernel
theorem dX5_odds_84 : decode cX5_odds 84 = .ok (.idiv, 1) := by decide +kernel
theorem dX5_odds_85 : decode cX5_odds 85 = .ok (.i2l, 1) := by decide +kernel
theorem dX5_odds_86 : decode cX5_odds 86 = .ok (.lstore 6, 2) := by decide +kernel
theorem dX5_odds_88 : decode cX5_odds 88 = .ok (.lconst 1, 1) := by decide +kernel
theorem dX5_odds_89 : decode cX5_odds 89 = .ok (.lstore 8, 2) := by decide +kernel
theorem dX5_odds_91 : decode cX5_odds 91 = .ok (.iconst 0, 1) := by decide +kernel
theorem dX5_odds_92 : decode cX5_odds 92 = .ok (.istore 10, 2) := by decide +kernel
theorem dX5_odds_94 : decode cX5_odds 94 = .ok (.iload 10, 2) := by decide +kernel
theorem dX5_odds_96 : decode cX5_odds 96 = .ok (.iload_n 2, 1) := by decide +kernel
theorem dX5_odds_97 : decode cX5_odds 97 = .ok (.if_icmp .ge 16, 3) := by decide +kernel
theorem dX5_odds_100 : decode cX5_odds 100 = .ok (.lload 8, 2) := by decide +kernel
theorem dX5_odds_102 : decode cX5_odds 102 = .ok (.lload 6, 2) := by decide +kernel
theorem dX5_odds_104 : decode cX5_odds 104 = .ok (.lmul, 1) := by decide +kernel
theorem dX5_odds_105 : decode cX5_odds 105 = .ok (.lstore 8, 2) := by decide +kernel
theorem dX5_odds_107 : decode cX5_odds 107 = .ok (.iinc 10 1, 3) := by decide +kernel
theorem dX5_odds_110 : decode cX5_odds 110 = .ok (.goto (-16), 3) := by decide +kernel
theorem dX5_odds_113 : decode cX5_odds 113 = .ok (.lload 8, 2) := by decide +kernel
theorem dX5_odds_115 : decode cX5_odds 115 = .ok (.lreturn, 1) := by decide +kernel
theorem dX5_seed_0 : decode cX5_seed 0 = .ok (.aload_n 0, 1) := by decide +kernel
theorem dX5_seed_1 : decode cX5_seed 1 = .ok (.getfield 10, 3) := by decide +kernel
theorem dX5_seed_4 : decode cX5_seed 4 = .ok (.getfield 180, 3) := by decide +kernel
theorem dX5_seed_7 : decode cX5_seed 7 = .ok (.istore_n 2, 1) := by decide +kernel
theorem dX5_seed_8 : decode cX5_seed 8 = .ok (.aload_n 0, 1) := by decide +kernel
theorem dX5_seed_9 : decode cX5_seed 9 = .ok (.getfield 10, 3) := by decide +kernel
theorem dX5_seed_12 : decode cX5_seed 12 = .ok (.iload_n 1, 1) := by decide +kernel
theorem dX5_seed_13 : decode cX5_seed 13 = .ok (.putfield 180, 3) := by decide +kernel
theorem dX5_seed_16 : decode cX5_seed 16 = .ok (.iload_n 2, 1) := by decide +kernel
theorem dX5_seed_17 : decode cX5_seed 17 = .ok (.ireturn, 1) := by decide +kernel
theorem dX5_feed_0 : decode cX5_feed 0 = .ok (.iload_n 2, 1) := by decide +kernel
theorem dX5_feed_1 : decode cX5_feed 1 = .ok (.iconst 1, 1) := by decide +kernel
theorem dX5_feed_2 : decode cX5_feed 2 = .ok (.if_icmp .lt 8, 3) := by decide +kernel
theorem dX5_feed_5 : decode cX5_feed 5 = .ok (.iload_n 2, 1) := by decide +kernel
theorem dX5_feed_6 : decode cX5_feed 6 = .ok (.iconst 4, 1) := by decide +kernel
theorem dX5_feed_7 : decode cX5_feed 7 = .ok (.if_icmp .le 9, 3) := by decide +kernel
theorem dX5_feed_10 : decode cX5_feed 10 = .ok (.aload_n 0, 1) := by decide +kernel
theorem dX5_feed_11 : decode cX5_feed 11 = .ok (.iconst 0, 1) := by decide +kernel
theorem dX5_feed_12 : decode cX5_feed 12 = .ok (.invokevirtual 64, 3) := by decide +kernel
theorem dX5_feed_15 : decode cX5_feed 15 = .ok (.ireturn, 1) := by decide +kernel
theorem dX5_feed_16 : decode cX5_feed 16 = .ok (.aload_n 0, 1) := by decide +kernel
theorem dX5_feed_17 : decode cX5_feed 17 = .ok (.getfield 29, 3) := by decide +kernel
theorem dX5_feed_20 : decode cX5_feed 20 = .ok (.getfield 183, 3) := by decide +kernel
theorem dX5_feed_23 : decode cX5_feed 23 = .ok (.iload_n 2, 1) := by decide +kernel
theorem dX5_feed_24 : decode cX5_feed 24 = .ok (.iadd, 1) := by decide +kernel
theorem dX5_feed_25 : decode cX5_feed 25 = .ok (.bipush 120, 2) := by decide +kernel
theorem dX5_feed_27 : decode cX5_feed 27 = .ok (.if_icmp .le 9, 3) := by decide +kernel
theorem dX5_feed_30 : decode cX5_feed 30 = .ok (.aload_n 0, 1) := by decide +kernel
theorem dX5_feed_31 : decode cX5_feed 31 = .ok (.iconst 1, 1) := by decide +kernel
theorem dX5_feed_32 : decode cX5_feed 32 = .ok (.invokevirtual 64, 3) := by decide +kernel
theorem dX5_feed_35 : decode cX5_feed 35 = .ok (.ireturn, 1) := by decide +kernel
theorem dX5_feed_36 : decode cX5_feed 36 = .ok (.iload_n 2, 1) := by decide +kernel
theorem dX5_feed_37 : decode cX5_feed 37 = .ok (.iconst 1, 1) := by decide +kernel
theorem dX5_feed_38 : decode cX5_feed 38 = .ok (.isub, 1) := by decide +kernel
theorem dX5_feed_39 : decode cX5_feed 39 = .ok (.istore_n 3, 1) := by decide +kernel
theorem dX5_feed_40 : decode cX5_feed 40 = .ok (.iload_n 3, 1) := by decide +kernel
theorem dX5_feed_41 : decode cX5_feed 41 = .ok (.ifCond .lt 26, 3) := by decide +kernel
theorem dX5_feed_44 : decode cX5_feed 44 = .ok (.aload_n 0, 1) := by decide +kernel
theorem dX5_feed_45 : decode cX5_feed 45 = .ok (.getfield 29, 3) := by decide +kernel
theorem dX5_feed_48 : decode cX5_feed 48 = .ok (.iload_n 1, 1) := by decide +kernel
theorem dX5_feed_49 : decode cX5_feed 49 = .ok (.bipush 8, 2) := by decide +kernel
theorem dX5_feed_51 : decode cX5_feed 51 = .ok (.iload_n 3, 1) := by decide +kernel
theorem dX5_feed_52 : decode cX5_feed 52 = .ok (.imul, 1) := by decide +kernel
theorem dX5_feed_53 : decode cX5_feed 53 = .ok (.ishr, 1) := by decide +kernel
theorem dX5_feed_54 : decode cX5_feed 54 = .ok (.sipush 255, 3) := by decide +kernel
theorem dX5_feed_57 : decode cX5_feed 57 = .ok (.iand, 1) := by decide +kernel
theorem dX5_feed_58 : decode cX5_feed 58 = .ok (.invokevirtual 186, 3) := by decide +kernel
theorem dX5_feed_61 : decode cX5_feed 61 = .ok (.iinc 3 (-1), 3) := by decide +kernel
theorem dX5_feed_64 : decode cX5_feed 64 = .ok (.goto (-24), 3) := by decide +kernel
theorem dX5_feed_67 : decode cX5_feed 67 = .ok (.aload_n 0, 1) := by decide +kernel
theorem dX5_feed_68 : decode cX5_feed 68 = .ok (.getfield 29, 3) := by decide +kernel
theorem dX5_feed_71 : decode cX5_feed 71 = .ok (.getfield 183, 3) := by decide +kernel
theorem dX5_feed_74 : decode cX5_feed 74 = .ok (.ireturn, 1) := by decide +kernel
theorem dX5_wipe_0 : decode cX5_wipe 0 = .ok (.aload_n 0, 1) := by decide +kernel
theorem dX5_wipe_1 : decode cX5_wipe 1 = .ok (.getfield 29, 3) := by decide +kernel
theorem dX5_wipe_4 : decode cX5_wipe 4 = .ok (.getfield 183, 3) := by decide +kernel
theorem dX5_wipe_7 : decode cX5_wipe 7 = .ok (.istore_n 1, 1) := by decide +kernel
theorem dX5_wipe_8 : decode cX5_wipe 8 = .ok (.aload_n 0, 1) := by decide +kernel
theorem dX5_wipe_9 : decode cX5_wipe 9 = .ok (.getfield 29, 3) := by decide +kernel
theorem dX5_wipe_12 : decode cX5_wipe 12 = .ok (.iconst 0, 1) := by decide +kernel
theorem dX5_wipe_13 : decode cX5_wipe 13 = .ok (.putfield 183, 3) := by decide +kernel
theorem dX5_wipe_16 : decode cX5_wipe 16 = .ok (.iload_n 1, 1) := by decide +kernel
theorem dX5_wipe_17 : decode cX5_wipe 17 = .ok (.ireturn, 1) := by decide +kernel
theorem dX5_text_0 : decode cX5_text 0 = .ok (.aload_n 0, 1) := by decide +kernel
theorem dX5_text_1 : decode cX5_text 1 = .ok (.getfield 19, 3) := by decide +kernel
theorem dX5_text_4 : decode cX5_text 4 = .ok (.aload_n 0, 1) := by decide +kernel
theorem dX5_text_5 : decode cX5_text 5 = .ok (.getfield 10, 3) := by decide +kernel
theorem dX5_text_8 : decode cX5_text 8 = .ok (.invokevirtual 126, 3) := by decide +kernel
theorem dX5_text_11 : decode cX5_text 11 = .ok (.aload_n 0, 1) := by decide +kernel
theorem dX5_text_12 : decode cX5_text 12 = .ok (.getfield 38, 3) := by decide +kernel
theorem dX5_text_15 : decode cX5_text 15 = .ok (.aload_n 0, 1) := by decide +kernel
theorem dX5_text_16 : decode cX5_text 16 = .ok (.getfield 19, 3) := by decide +kernel
theorem dX5_text_19 : decode cX5_text 19 = .ok (.invokevirtual 189, 3) := by decide +kernel
theorem dX5_text_22 : decode cX5_text 22 = .ok (.istore_n 1, 1) := by decide +kernel
theorem dX5_text_23 : decode cX5_text 23 = .ok (.iload_n 1, 1) := by decide +kernel
theorem dX5_text_24 : decode cX5_text 24 = .ok (.ifCond .le 14, 3) := by decide +kernel
theorem dX5_text_27 : decode cX5_text 27 = .ok (.aload_n 0, 1) := by decide +kernel
theorem dX5_text_28 : decode cX5_text 28 = .ok (.getfield 10, 3) := by decide +kernel
theorem dX5_text_31 : decode cX5_text 31 = .ok (.aload_n 0, 1) := by decide +kernel
theorem dX5_text_32 : decode cX5_text 32 = .ok (.getfield 19, 3) := by decide +kernel
theorem dX5_text_35 : decode cX5_text 35 = .ok (.invokevirtual 126, 3) := by decide +kernel
theorem dX5_text_38 : decode cX5_text 38 = .ok (.aload_n 0, 1) := by decide +kernel
theorem dX5_text_39 : decode cX5_text 39 = .ok (.getfield 29, 3) := by decide +kernel
theorem dX5_text_42 : decode cX5_text 42 = .ok (.iconst 0, 1) := by decide +kernel
theorem dX5_text_43 : decode cX5_text 43 = .ok (.putfield 183, 3) := by decide +kernel
theorem dX5_text_46 : decode cX5_text 46 = .ok (.iload_n 1, 1) := by decide +kernel
theorem dX5_text_47 : decode cX5_text 47 = .ok (.ireturn, 1) := by decide +kernel
theorem dX5_hold_0 : decode cX5_hold 0 = .ok (.iload_n 1, 1) := by decide +kernel
theorem dX5_hold_1 : decode cX5_hold 1 = .ok (.invokestatic 193, 3) := by decide +kernel
theorem dX5_hold_4 : decode cX5_hold 4 = .ok (.ifCond .eq 15, 3) := by decide +kernel
theorem dX5_hold_7 : decode cX5_hold 7 = .ok (.iload_n 2, 1) := by decide +kernel
theorem dX5_hold_8 : decode cX5_hold 8 = .ok (.iconst (-1), 1) := by decide +kernel
theorem dX5_hold_9 : decode cX5_hold 9 = .ok (.if_icmp .eq 16, 3) := by decide +kernel
theorem dX5_hold_12 : decode cX5_hold 12 = .ok (.iload_n 2, 1) := by decide +kernel
theorem dX5_hold_13 : decode cX5_hold 13 = .ok (.invokestatic 52, 3) := by decide +kernel
theorem dX5_hold_16 : decode cX5_hold 16 = .ok (.ifCond .ne 9, 3) := by decide +kernel
theorem dX5_hold_19 : decode cX5_hold 19 = .ok (.aload_n 0, 1) := by decide +kernel
theorem dX5_hold_20 : decode cX5_hold 20 = .ok (.iconst 0, 1) := by decide +kernel
theorem dX5_hold_21 : decode cX5_hold 21 = .ok (.invokevirtual 64, 3) := by decide +kernel
theorem dX5_hold_24 : decode cX5_hold 24 = .ok (.ireturn, 1) := by decide +kernel
theorem dX5_hold_25 : decode cX5_hold 25 = .ok (.aload_n 0, 1) := by decide +kernel
theorem dX5_hold_26 : decode cX5_hold 26 = .ok (.getfield 10, 3) := by decide +kernel
theorem dX5_hold_29 : decode cX5_hold 29 = .ok (.getfield 196, 3) := by decide +kernel
theorem dX5_hold_32 : decode cX5_hold 32 = .ok (.iload_n 1, 1) := by decide +kernel
theorem dX5_hold_33 : decode cX5_hold 33 = .ok (.iload_n 2, 1) := by decide +kernel
theorem dX5_hold_34 : decode cX5_hold 34 = .ok (.iastore, 1) := by decide +kernel
theorem dX5_hold_35 : decode cX5_hold 35 = .ok (.iconst 1, 1) := by decide +kernel
theorem dX5_hold_36 : decode cX5_hold 36 = .ok (.ireturn, 1) := by decide +kernel
theorem dX5_as_0 : decode cX5_as 0 = .ok (.iload_n 1, 1) := by decide +kernel
theorem dX5_as_1 : decode cX5_as 1 = .ok (.invokestatic 193, 3) := by decide +kernel
theorem dX5_as_4 : decode cX5_as 4 = .ok (.ifCond .eq 12, 3) := by decide +kernel
theorem dX5_as_7 : decode cX5_as 7 = .ok (.iload_n 2, 1) := by decide +kernel
theorem dX5_as_8 : decode cX5_as 8 = .ok (.bipush 6, 2) := by decide +kernel
theorem dX5_as_10 : decode cX5_as 10 = .ok (.invokestatic 56, 3) := by decide +kernel
theorem dX5_as_13 : decode cX5_as 13 = .ok (.ifCond .ne 9, 3) := by decide +kernel
theorem dX5_as_16 : decode cX5_as 16 = .ok (.aload_n 0, 1) := by decide +kernel
theorem dX5_as_17 : decode cX5_as 17 = .ok (.iconst 0, 1) := by decide +kernel
theorem dX5_as_18 : decode cX5_as 18 = .ok (.invokevirtual 64, 3) := by decide +kernel
theorem dX5_as_21 : decode cX5_as 21 = .ok (.ireturn, 1) := by decide +kernel
theorem dX5_as_22 : decode cX5_as 22 = .ok (.aload_n 0, 1) := by decide +kernel
theorem dX5_as_23 : decode cX5_as 23 = .ok (.getfield 10, 3) := by decide +kernel
theorem dX5_as_26 : decode cX5_as 26 = .ok (.getfield 196, 3) := by decide +kernel
theorem dX5_as_29 : decode cX5_as 29 = .ok (.iload_n 1, 1) := by decide +kernel
theorem dX5_as_30 : decode cX5_as 30 = .ok (.iaload, 1) := by decide +kernel
theorem dX5_as_31 : decode cX5_as 31 = .ok (.istore_n 3, 1) := by decide +kernel
theorem dX5_as_32 : decode cX5_as 32 = .ok (.iload_n 3, 1) := by decide +kernel
theorem dX5_as_33 : decode cX5_as 33 = .ok (.iconst (-1), 1) := by decide +kernel
theorem dX5_as_34 : decode cX5_as 34 = .ok (.if_icmp .ne 9, 3) := by decide +kernel
theorem dX5_as_37 : decode cX5_as 37 = .ok (.aload_n 0, 1) := by decide +kernel
theorem dX5_as_38 : decode cX5_as 38 = .ok (.iconst 5, 1) := by decide +kernel
theorem dX5_as_39 : decode cX5_as 39 = .ok (.invokevirtual 64, 3) := by decide +kernel
theorem dX5_as_42 : decode cX5_as 42 = .ok (.ireturn, 1) := by decide +kernel
theorem dX5_as_43 : decode cX5_as 43 = .ok (.aload_n 0, 1) := by decide +kernel
theorem dX5_as_44 : decode cX5_as 44 = .ok (.getfield 10, 3) := by decide +kernel
theorem dX5_as_47 : decode cX5_as 47 = .ok (.getfield 77, 3) := by decide +kernel
theorem dX5_as_50 : decode cX5_as 50 = .ok (.iload_n 3, 1) := by decide +kernel
theorem dX5_as_51 : decode cX5_as 51 = .ok (.iaload, 1) := by decide +kernel
theorem dX5_as_52 : decode cX5_as 52 = .ok (.iload_n 2, 1) := by decide +kernel
theorem dX5_as_53 : decode cX5_as 53 = .ok (.invokestatic 199, 3) := by decide +kernel
theorem dX5_as_56 : decode cX5_as 56 = .ok (.ifCond .ne 9, 3) := by decide +kernel
theorem dX5_as_59 : decode cX5_as 59 = .ok (.aload_n 0, 1) := by decide +kernel
theorem dX5_as_60 : decode cX5_as 60 = .ok (.iconst 2, 1) := by decide +kernel
theorem dX5_as_61 : decode cX5_as 61 = .ok (.invokevirtual 64, 3) := by decide +kernel
theorem dX5_as_64 : decode cX5_as 64 = .ok (.ireturn, 1) := by decide +kernel
theorem dX5_as_65 : decode cX5_as 65 = .ok (.iload_n 3, 1) := by decide +kernel
theorem dX5_as_66 : decode cX5_as 66 = .ok (.ireturn, 1) := by decide +kernel
theorem dX5_sheet_0 : decode cX5_sheet 0 = .ok (.iload_n 1, 1) := by decide +kernel
theorem dX5_sheet_1 : decode cX5_sheet 1 = .ok (.invokestatic 202, 3) := by decide +kernel
theorem dX5_sheet_4 : decode cX5_sheet 4 = .ok (.ifCond .eq 25, 3) := by decide +kernel
theorem dX5_sheet_7 : decode cX5_sheet 7 = .ok (.iload_n 2, 1) := by decide +kernel
theorem dX5_sheet_8 : decode cX5_sheet 8 = .ok (.ifCond .eq 27, 3) := by decide +kernel
theorem dX5_sheet_11 : decode cX5_sheet 11 = .ok (.iload_n 2, 1) := by decide +kernel
theorem dX5_sheet_12 : decode cX5_sheet 12 = .ok (.bipush 8, 2) := by decide +kernel
theorem dX5_sheet_14 : decode cX5_sheet 14 = .ok (.if_icmp .eq 21, 3) := by decide +kernel
theorem dX5_sheet_17 : decode cX5_sheet 17 = .ok (.iload_n 2, 1) := by decide +kernel
theorem dX5_sheet_18 : decode cX5_sheet 18 = .ok (.bipush 16, 2) := by decide +kernel
theorem dX5_sheet_20 : decode cX5_sheet 20 = .ok (.if_icmp .eq 15, 3) := by decide +kernel
theorem dX5_sheet_23 : decode cX5_sheet 23 = .ok (.iload_n 2, 1) := by decide +kernel
theorem dX5_sheet_24 : decode cX5_sheet 24 = .ok (.bipush 32, 2) := by decide +kernel
theorem dX5_sheet_26 : decode cX5_sheet 26 = .ok (.if_icmp .eq 9, 3) := by decide +kernel
theorem dX5_sheet_29 : decode cX5_sheet 29 = .ok (.aload_n 0, 1) := by decide +kernel
theorem dX5_sheet_30 : decode cX5_sheet 30 = .ok (.iconst 0, 1) := by decide +kernel
theorem dX5_sheet_31 : decode cX5_sheet 31 = .ok (.invokevirtual 64, 3) := by decide +kernel
theorem dX5_sheet_34 : decode cX5_sheet 34 = .ok (.ireturn, 1) := by decide +kernel
theorem dX5_sheet_35 : decode cX5_sheet 35 = .ok (.iload_n 3, 1) := by decide +kernel
theorem dX5_sheet_36 : decode cX5_sheet 36 = .ok (.ifCond .ge 10, 3) := by decide +kernel
theorem dX5_sheet_39 : decode cX5_sheet 39 = .ok (.aload_n 0, 1) := by decide +kernel
theorem dX5_sheet_40 : decode cX5_sheet 40 = .ok (.bipush 6, 2) := by decide +kernel
theorem dX5_sheet_42 : decode cX5_sheet 42 = .ok (.invokevirtual 64, 3) := by decide +kernel
theorem dX5_sheet_45 : decode cX5_sheet 45 = .ok (.ireturn, 1) := by decide +kernel
theorem dX5_sheet_46 : decode cX5_sheet 46 = .ok (.iload_n 3, 1) := by decide +kernel
theorem dX5_sheet_47 : decode cX5_sheet 47 = .ok (.bipush 40, 2) := by decide +kernel
theorem dX5_sheet_49 : decode cX5_sheet 49 = .ok (.if_icmp .le 9, 3) := by decide +kernel
theorem dX5_sheet_52 : decode cX5_sheet 52 = .ok (.aload_n 0, 1) := by decide +kernel
theorem dX5_sheet_53 : decode cX5_sheet 53 = .ok (.iconst 0, 1) := by decide +kernel
theorem dX5_sheet_54 : decode cX5_sheet 54 = .ok (.invokevirtual 64, 3) := by decide +kernel
theorem dX5_sheet_57 : decode cX5_sheet 57 = .ok (.ireturn, 1) := by decide +kernel
theorem dX5_sheet_58 : decode cX5_sheet 58 = .ok (.aload_n 0, 1) := by decide +kernel
theorem dX5_sheet_59 : decode cX5_sheet 59 = .ok (.getfield 44, 3) := by decide +kernel
theorem dX5_sheet_62 : decode cX5_sheet 62 = .ok (.iload_n 1, 1) := by decide +kernel
theorem dX5_sheet_63 : decode cX5_sheet 63 = .ok (.aaload, 1) := by decide +kernel
theorem dX5_sheet_64 : decode cX5_sheet 64 = .ok (.iload_n 2, 1) := by decide +kernel
theorem dX5_sheet_65 : decode cX5_sheet 65 = .ok (.iload_n 2, 1) := by decide +kernel
theorem dX5_sheet_66 : decode cX5_sheet 66 = .ok (.ifCond .ne 7, 3) := by decide +kernel
theorem dX5_sheet_69 : decode cX5_sheet 69 = .ok (.iconst 0, 1) := by decide +kernel
theorem dX5_sheet_70 : decode cX5_sheet 70 = .ok (.goto 4, 3) := by decide +kernel
theorem dX5_sheet_73 : decode cX5_sheet 73 = .ok (.iload_n 3, 1) := by decide +kernel
theorem dX5_sheet_74 : decode cX5_sheet 74 = .ok (.invokevirtual 205, 3) := by decide +kernel
theorem dX5_sheet_77 : decode cX5_sheet 77 = .ok (.aload_n 0, 1) := by decide +kernel
theorem dX5_sheet_78 : decode cX5_sheet 78 = .ok (.getfield 44, 3) := by decide +kernel
theorem dX5_sheet_81 : decode cX5_sheet 81 = .ok (.iload_n 1, 1) := by decide +kernel
theorem dX5_sheet_82 : decode cX5_sheet 82 = .ok (.aaload, 1) := by decide +kernel
theorem dX5_sheet_83 : decode cX5_sheet 83 = .ok (.getfield 208, 3) := by decide +kernel
theorem dX5_sheet_86 : decode cX5_sheet 86 = .ok (.ireturn, 1) := by decide +kernel
theorem dX5_write_0 : decode cX5_write 0 = .ok (.aload_n 0, 1) := by decide +kernel
theorem dX5_write_1 : decode cX5_write 1 = .ok (.iload_n 1, 1) := by decide +kernel
theorem dX5_write_2 : decode cX5_write 2 = .ok (.invokevirtual 170, 3) := by decide +kernel
theorem dX5_write_5 : decode cX5_write 5 = .ok (.istore 4, 2) := by decide +kernel
theorem dX5_write_7 : decode cX5_write 7 = .ok (.iload 4, 2) := by decide +kernel
theorem dX5_write_9 : decode cX5_write 9 = .ok (.ifCond .eq 6, 3) := by decide +kernel
theorem dX5_write_12 : decode cX5_write 12 = .ok (.iload 4, 2) := by decide +kernel
theorem dX5_write_14 : decode cX5_write 14 = .ok (.ireturn, 1) := by decide +kernel
theorem dX5_write_15 : decode cX5_write 15 = .ok (.iload_n 2, 1) := by decide +kernel
theorem dX5_write_16 : decode cX5_write 16 = .ok (.ifCond .lt 16, 3) := by decide +kernel
theorem dX5_write_19 : decode cX5_write 19 = .ok (.iload_n 2, 1) := by decide +kernel
theorem dX5_write_20 : decode cX5_write 20 = .ok (.aload_n 0, 1) := by decide +kernel
theorem dX5_write_21 : decode cX5_write 21 = .ok (.getfield 44, 3) := by decide +kernel
theorem dX5_write_24 : decode cX5_write 24 = .ok (.iload_n 1, 1) := by decide +kernel
theorem dX5_write_25 : decode cX5_write 25 = .ok (.aaload, 1) := by decide +kernel
theorem dX5_write_26 : decode cX5_write 26 = .ok (.getfield 208, 3) := by decide +kernel
theorem dX5_write_29 : decode cX5_write 29 = .ok (.if_icmp .lt 9, 3) := by decide +kernel
theorem dX5_write_32 : decode cX5_write 32 = .ok (.aload_n 0, 1) := by decide +kernel
theorem dX5_write_33 : decode cX5_write 33 = .ok (.iconst 0, 1) := by decide +kernel
theorem dX5_write_34 : decode cX5_write 34 = .ok (.invokevirtual 64, 3) := by decide +kernel
theorem dX5_write_37 : decode cX5_write 37 = .ok (.ireturn, 1) := by decide +kernel
theorem dX5_write_38 : decode cX5_write 38 = .ok (.aload_n 0, 1) := by decide +kernel
theorem dX5_write_39 : decode cX5_write 39 = .ok (.getfield 44, 3) := by decide +kernel
theorem dX5_write_42 : decode cX5_write 42 = .ok (.iload_n 1, 1) := by decide +kernel
theorem dX5_write_43 : decode cX5_write 43 = .ok (.aaload, 1) := by decide +kernel
theorem dX5_write_44 : decode cX5_write 44 = .ok (.iload_n 2, 1) := by decide +kernel
theorem dX5_write_45 : decode cX5_write 45 = .ok (.iload_n 3, 1) := by decide +kernel
theorem dX5_write_46 : decode cX5_write 46 = .ok (.invokevirtual 209, 3) := by decide +kernel
theorem dX5_write_49 : decode cX5_write 49 = .ok (.iconst 1, 1) := by decide +kernel
theorem dX5_write_50 : decode cX5_write 50 = .ok (.ireturn, 1) := by decide +kernel
theorem dX5_copy_0 : decode cX5_copy 0 = .ok (.iload_n 1, 1) := by decide +kernel
theorem dX5_copy_1 : decode cX5_copy 1 = .ok (.invokestatic 202, 3) := by decide +kernel
theorem dX5_copy_4 : decode cX5_copy 4 = .ok (.ifCond .eq 10, 3) := by decide +kernel
theorem dX5_copy_7 : decode cX5_copy 7 = .ok (.iload_n 3, 1) := by decide +kernel
theorem dX5_copy_8 : decode cX5_copy 8 = .ok (.invokestatic 202, 3) := by decide +kernel
theorem dX5_copy_11 : decode cX5_copy 11 = .ok (.ifCond .ne 9, 3) := by decide +kernel
theorem dX5_copy_14 : decode cX5_copy 14 = .ok (.aload_n 0, 1) := by decide +kernel
theorem dX5_copy_15 : decode cX5_copy 15 = .ok (.iconst 0, 1) := by decide +kernel
theorem dX5_copy_16 : decode cX5_copy 16 = .ok (.invokevirtual 64, 3) := by decide +kernel
theorem dX5_copy_19 : decode cX5_copy 19 = .ok (.ireturn, 1) := by decide +kernel
theorem dX5_copy_20 : decode cX5_copy 20 = .ok (.aload_n 0, 1) := by decide +kernel
theorem dX5_copy_21 : decode cX5_copy 21 = .ok (.getfield 44, 3) := by decide +kernel
theorem dX5_copy_24 : decode cX5_copy 24 = .ok (.iload_n 1, 1) := by decide +kernel
theorem dX5_copy_25 : decode cX5_copy 25 = .ok (.aaload, 1) := by decide +kernel
theorem dX5_copy_26 : decode cX5_copy 26 = .ok (.astore 6, 2) := by decide +kernel
theorem dX5_copy_28 : decode cX5_copy 28 = .ok (.aload_n 0, 1) := by decide +kernel
theorem dX5_copy_29 : decode cX5_copy 29 = .ok (.getfield 44, 3) := by decide +kernel
theorem dX5_copy_32 : decode cX5_copy 32 = .ok (.iload_n 3, 1) := by decide +kernel
theorem dX5_copy_33 : decode cX5_copy 33 = .ok (.aaload, 1) := by decide +kernel
theorem dX5_copy_34 : decode cX5_copy 34 = .ok (.astore 7, 2) := by decide +kernel
theorem dX5_copy_36 : decode cX5_copy 36 = .ok (.aload 6, 2) := by decide +kernel
theorem dX5_copy_38 : decode cX5_copy 38 = .ok (.invokevirtual 212, 3) := by decide +kernel
theorem dX5_copy_41 : decode cX5_copy 41 = .ok (.ifCond .ne 11, 3) := by decide +kernel
theorem dX5_copy_44 : decode cX5_copy 44 = .ok (.aload 7, 2) := by decide +kernel
theorem dX5_copy_46 : decode cX5_copy 46 = .ok (.invokevirtual 212, 3) := by decide +kernel
theorem dX5_copy_49 : decode cX5_copy 49 = .ok (.ifCond .eq 9, 3) := by decide +kernel
theorem dX5_copy_52 : decode cX5_copy 52 = .ok (.aload_n 0, 1) := by decide +kernel
theorem dX5_copy_53 : decode cX5_copy 53 = .ok (.iconst 5, 1) := by decide +kernel
theorem dX5_copy_54 : decode cX5_copy 54 = .ok (.invokevirtual 64, 3) := by decide +kernel
theorem dX5_copy_57 : decode cX5_copy 57 = .ok (.ireturn, 1) := by decide +kernel
theorem dX5_copy_58 : decode cX5_copy 58 = .ok (.aload 6, 2) := by decide +kernel
theorem dX5_copy_60 : decode cX5_copy 60 = .ok (.getfield 215, 3) := by decide +kernel
theorem dX5_copy_63 : decode cX5_copy 63 = .ok (.aload 7, 2) := by decide +kernel
theorem dX5_copy_65 : decode cX5_copy 65 = .ok (.getfield 215, 3) := by decide +kernel
theorem dX5_copy_68 : decode cX5_copy 68 = .ok (.if_icmp .eq 9, 3) := by decide +kernel
theorem dX5_copy_71 : decode cX5_copy 71 = .ok (.aload_n 0, 1) := by decide +kernel
theorem dX5_copy_72 : decode cX5_copy 72 = .ok (.iconst 2, 1) := by decide +kernel
theorem dX5_copy_73 : decode cX5_copy 73 = .ok (.invokevirtual 64, 3) := by decide +kernel
theorem dX5_copy_76 : decode cX5_copy 76 = .ok (.ireturn, 1) := by decide +kernel
theorem dX5_copy_77 : decode cX5_copy 77 = .ok (.aload 6, 2) := by decide +kernel
theorem dX5_copy_79 : decode cX5_copy 79 = .ok (.iload_n 2, 1) := by decide +kernel
theorem dX5_copy_80 : decode cX5_copy 80 = .ok (.iload 5, 2) := by decide +kernel
theorem dX5_copy_82 : decode cX5_copy 82 = .ok (.invokevirtual 218, 3) := by decide +kernel
theorem dX5_copy_85 : decode cX5_copy 85 = .ok (.ifCond .eq 15, 3) := by decide +kernel
theorem dX5_copy_88 : decode cX5_copy 88 = .ok (.aload 7, 2) := by decide +kernel
theorem dX5_copy_90 : decode cX5_copy 90 = .ok (.iload 4, 2) := by decide +kernel
theorem dX5_copy_92 : decode cX5_copy 92 = .ok (.iload 5, 2) := by decide +kernel
theorem dX5_copy_94 : decode cX5_copy 94 = .ok (.invokevirtual 218, 3) := by decide +kernel
theorem dX5_copy_97 : decode cX5_copy 97 = .ok (.ifCond .ne 9, 3) := by decide +kernel
theorem dX5_copy_100 : decode cX5_copy 100 = .ok (.aload_n 0, 1) := by decide +kernel
theorem dX5_copy_101 : decode cX5_copy 101 = .ok (.iconst 0, 1) := by decide +kernel
theorem dX5_copy_102 : decode cX5_copy 102 = .ok (.invokevirtual 64, 3) := by decide +kernel
theorem dX5_copy_105 : decode cX5_copy 105 = .ok (.ireturn, 1) := by decide +kernel
theorem dX5_copy_106 : decode cX5_copy 106 = .ok (.aload 6, 2) := by decide +kernel
theorem dX5_copy_108 : decode cX5_copy 108 = .ok (.getfield 221, 3) := by decide +kernel
theorem dX5_copy_111 : decode cX5_copy 111 = .ok (.iload_n 2, 1) := by decide +kernel
theorem dX5_copy_112 : decode cX5_copy 112 = .ok (.aload 7, 2) := by decide +kernel
theorem dX5_copy_114 : decode cX5_copy 114 = .ok (.getfield 221, 3) := by decide +kernel
theorem dX5_copy_117 : decode cX5_copy 117 = .ok (.iload 4, 2) := by decide +kernel
theorem dX5_copy_119 : decode cX5_copy 119 = .ok (.iload 5, 2) := by decide +kernel
theorem dX5_copy_121 : decode cX5_copy 121 = .ok (.invokestatic 133, 3) := by decide +kernel
theorem dX5_copy_124 : decode cX5_copy 124 = .ok (.iload 5, 2) := by decide +kernel
theorem dX5_copy_126 : decode cX5_copy 126 = .ok (.ireturn, 1) := by decide +kernel
theorem dX5_load_0 : decode cX5_load 0 = .ok (.aload_n 0, 1) := by decide +kernel
theorem dX5_load_1 : decode cX5_load 1 = .ok (.iload_n 1, 1) := by decide +kernel
theorem dX5_load_2 : decode cX5_load 2 = .ok (.invokevirtual 170, 3) := by decide +kernel
theorem dX5_load_5 : decode cX5_load 5 = .ok (.istore_n 2, 1) := by decide +kernel
theorem dX5_load_6 : decode cX5_load 6 = .ok (.iload_n 2, 1) := by decide +kernel
theorem dX5_load_7 : decode cX5_load 7 = .ok (.ifCond .eq 5, 3) := by decide +kernel
theorem dX5_load_10 : decode cX5_load 10 = .ok (.iload_n 2, 1) := by decide +kernel
theorem dX5_load_11 : decode cX5_load 11 = .ok (.ireturn, 1) := by decide +kernel
theorem dX5_load_12 : decode cX5_load 12 = .ok (.iconst 0, 1) := by decide +kernel
theorem dX5_load_13 : decode cX5_load 13 = .ok (.istore_n 3, 1) := by decide +kernel
theorem dX5_load_14 : decode cX5_load 14 = .ok (.iload_n 3, 1) := by decide +kernel
theorem dX5_load_15 : decode cX5_load 15 = .ok (.aload_n 0, 1) := by decide +kernel
theorem dX5_load_16 : decode cX5_load 16 = .ok (.getfield 44, 3) := by decide +kernel
theorem dX5_load_19 : decode cX5_load 19 = .ok (.iload_n 1, 1) := by decide +kernel
theorem dX5_load_20 : decode cX5_load 20 = .ok (.aaload, 1) := by decide +kernel
theorem dX5_load_21 : decode cX5_load 21 = .ok (.getfield 208, 3) := by decide +kernel
theorem dX5_load_24 : decode cX5_load 24 = .ok (.if_icmp .ge 54, 3) := by decide +kernel
theorem dX5_load_27 : decode cX5_load 27 = .ok (.iload_n 3, 1) := by decide +kernel
theorem dX5_load_28 : decode cX5_load 28 = .ok (.bipush 11, 2) := by decide +kernel
theorem dX5_load_30 : decode cX5_load 30 = .ok (.if_icmp .ge 48, 3) := by decide +kernel
theorem dX5_load_33 : decode cX5_load 33 = .ok (.aload_n 0, 1) := by decide +kernel
theorem dX5_load_34 : decode cX5_load 34 = .ok (.getfield 44, 3) := by decide +kernel
theorem dX5_load_37 : decode cX5_load 37 = .ok (.iload_n 1, 1) := by decide +kernel
theorem dX5_load_38 : decode cX5_load 38 = .ok (.aaload, 1) := by decide +kernel
theorem dX5_load_39 : decode cX5_load 39 = .ok (.getfield 221, 3) := by decide +kernel
theorem dX5_load_42 : decode cX5_load 42 = .ok (.iload_n 3, 1) := by decide +kernel
theorem dX5_load_43 : decode cX5_load 43 = .ok (.iaload, 1) := by decide +kernel
theorem dX5_load_44 : decode cX5_load 44 = .ok (.bipush 99, 2) := by decide +kernel
theorem dX5_load_46 : decode cX5_load 46 = .ok (.invokestatic 56, 3) := by decide +kernel
theorem dX5_load_49 : decode cX5_load 49 = .ok (.ifCond .eq 29, 3) := by decide +kernel
theorem dX5_load_52 : decode cX5_load 52 = .ok (.aload_n 0, 1) := by decide +kernel
theorem dX5_load_53 : decode cX5_load 53 = .ok (.getfield 10, 3) := by decide +kernel
theorem dX5_load_56 : decode cX5_load 56 = .ok (.getfield 224, 3) := by decide +kernel
theorem dX5_load_59 : decode cX5_load 59 = .ok (.iload_n 3, 1) := by decide +kernel
theorem dX5_load_60 : decode cX5_load 60 = .ok (.aload_n 0, 1) := by decide +kernel
theorem dX5_load_61 : decode cX5_load 61 = .ok (.getfield 44, 3) := by decide +kernel
theorem dX5_load_64 : decode cX5_load 64 = .ok (.iload_n 1, 1) := by decide +kernel
theorem dX5_load_65 : decode cX5_load 65 = .ok (.aaload, 1) := by decide +kernel
theorem dX5_load_66 : decode cX5_load 66 = .ok (.getfield 221, 3) := by decide +kernel
theorem dX5_load_69 : decode cX5_load 69 = .ok (.iload_n 3, 1) := by decide +kernel
theorem dX5_load_70 : decode cX5_load 70 = .ok (.iaload, 1) := by decide +kernel
theorem dX5_load_71 : decode cX5_load 71 = .ok (.iastore, 1) := by decide +kernel
theorem dX5_load_72 : decode cX5_load 72 = .ok (.iinc 3 1, 3) := by decide +kernel
theorem dX5_load_75 : decode cX5_load 75 = .ok (.goto (-61), 3) := by decide +kernel
theorem dX5_load_78 : decode cX5_load 78 = .ok (.iload_n 3, 1) := by decide +kernel
theorem dX5_load_79 : decode cX5_load 79 = .ok (.ireturn, 1) := by decide +kernel
theorem dX5_judge_0 : decode cX5_judge 0 = .ok (.aload_n 0, 1) := by decide +kernel
theorem dX5_judge_1 : decode cX5_judge 1 = .ok (.iload_n 1, 1) := by decide +kernel
theorem dX5_judge_2 : decode cX5_judge 2 = .ok (.invokevirtual 170, 3) := by decide +kernel
theorem dX5_judge_5 : decode cX5_judge 5 = .ok (.istore_n 2, 1) := by decide +kernel
theorem dX5_judge_6 : decode cX5_judge 6 = .ok (.iload_n 2, 1) := by decide +kernel
theorem dX5_judge_7 : decode cX5_judge 7 = .ok (.ifCond .eq 5, 3) := by decide +kernel
theorem dX5_judge_10 : decode cX5_judge 10 = .ok (.iload_n 2, 1) := by decide +kernel
theorem dX5_judge_11 : decode cX5_judge 11 = .ok (.ireturn, 1) := by decide +kernel
theorem dX5_judge_12 : decode cX5_judge 12 = .ok (.aload_n 0, 1) := by decide +kernel
theorem dX5_judge_13 : decode cX5_judge 13 = .ok (.getfield 44, 3) := by decide +kernel
theorem dX5_judge_16 : decode cX5_judge 16 = .ok (.iload_n 1, 1) := by decide +kernel
theorem dX5_judge_17 : decode cX5_judge 17 = .ok (.aaload, 1) := by decide +kernel
theorem dX5_judge_18 : decode cX5_judge 18 = .ok (.getfield 221, 3) := by decide +kernel
theorem dX5_judge_21 : decode cX5_judge 21 = .ok (.astore_n 3, 1) := by decide +kernel
theorem dX5_judge_22 : decode cX5_judge 22 = .ok (.iconst 0, 1) := by decide +kernel
theorem dX5_judge_23 : decode cX5_judge 23 = .ok (.istore 4, 2) := by decide +kernel
theorem dX5_judge_25 : decode cX5_judge 25 = .ok (.iload 4, 2) := by decide +kernel
theorem dX5_judge_27 : decode cX5_judge 27 = .ok (.aload_n 0, 1) := by decide +kernel
theorem dX5_judge_28 : decode cX5_judge 28 = .ok (.getfield 44, 3) := by decide +kernel
theorem dX5_judge_31 : decode cX5_judge 31 = .ok (.iload_n 1, 1) := by decide +kernel
theorem dX5_judge_32 : decode cX5_judge 32 = .ok (.aaload, 1) := by decide +kernel
theorem dX5_judge_33 : decode cX5_judge 33 = .ok (.getfield 208, 3) := by decide +kernel
theorem dX5_judge_36 : decode cX5_judge 36 = .ok (.if_icmp .ge 49, 3) := by decide +kernel
theorem dX5_judge_39 : decode cX5_judge 39 = .ok (.aload_n 3, 1) := by decide +kernel
theorem dX5_judge_40 : decode cX5_judge 40 = .ok (.iload 4, 2) := by decide +kernel
theorem dX5_judge_42 : decode cX5_judge 42 = .ok (.iaload, 1) := by decide +kernel
theorem dX5_judge_43 : decode cX5_judge 43 = .ok (.invokestatic 52, 3) := by decide +kernel
theorem dX5_judge_46 : decode cX5_judge 46 = .ok (.ifCond .eq 28, 3) := by decide +kernel
theorem dX5_judge_49 : decode cX5_judge 49 = .ok (.iload 4, 2) := by decide +kernel
theorem dX5_judge_51 : decode cX5_judge 51 = .ok (.ifCond .le 28, 3) := by decide +kernel
theorem dX5_judge_54 : decode cX5_judge 54 = .ok (.aload_n 0, 1) := by decide +kernel
theorem dX5_judge_55 : decode cX5_judge 55 = .ok (.getfield 10, 3) := by decide +kernel
theorem dX5_judge_58 : decode cX5_judge 58 = .ok (.aload_n 3, 1) := by decide +kernel
theorem dX5_judge_59 : decode cX5_judge 59 = .ok (.iload 4, 2) := by decide +kernel
theorem dX5_judge_61 : decode cX5_judge 61 = .ok (.iconst 1, 1) := by decide +kernel
theorem dX5_judge_62 : decode cX5_judge 62 = .ok (.isub, 1) := by decide +kernel
theorem dX5_judge_63 : decode cX5_judge 63 = .ok (.iaload, 1) := by decide +kernel
theorem dX5_judge_64 : decode cX5_judge 64 = .ok (.invokevirtual 85, 3) := by decide +kernel
theorem dX5_judge_67 : decode cX5_judge 67 = .ok (.aload_n 3, 1) := by decide +kernel
theorem dX5_judge_68 : decode cX5_judge 68 = .ok (.iload 4, 2) := by decide +kernel
theorem dX5_judge_70 : decode cX5_judge 70 = .ok (.iaload, 1) := by decide +kernel
theorem dX5_judge_71 : decode cX5_judge 71 = .ok (.if_icmp .eq 8, 3) := by decide +kernel
theorem dX5_judge_74 : decode cX5_judge 74 = .ok (.iconst 1, 1) := by decide +kernel
theorem dX5_judge_75 : decode cX5_judge 75 = .ok (.iload 4, 2) := by decide +kernel
theorem dX5_judge_77 : decode cX5_judge 77 = .ok (.iadd, 1) := by decide +kernel
theorem dX5_judge_78 : decode cX5_judge 78 = .ok (.ireturn, 1) := by decide +kernel
theorem dX5_judge_79 : decode cX5_judge 79 = .ok (.iinc 4 1, 3) := by decide +kernel
theorem dX5_judge_82 : decode cX5_judge 82 = .ok (.goto (-57), 3) := by decide +kernel
theorem dX5_judge_85 : decode cX5_judge 85 = .ok (.iconst 0, 1) := by decide +kernel
theorem dX5_judge_86 : decode cX5_judge 86 = .ok (.ireturn, 1) := by decide +kernel
theorem dX5_image_0 : decode cX5_image 0 = .ok (.aload_n 0, 1) := by decide +kernel
theorem dX5_image_1 : decode cX5_image 1 = .ok (.getfield 16, 3) := by decide +kernel
theorem dX5_image_4 : decode cX5_image 4 = .ok (.aload_n 0, 1) := by decide +kernel
theorem dX5_image_5 : decode cX5_image 5 = .ok (.getfield 10, 3) := by decide +kernel
theorem dX5_image_8 : decode cX5_image 8 = .ok (.invokevirtual 126, 3) := by decide +kernel
theorem dX5_image_11 : decode cX5_image 11 = .ok (.aload_n 0, 1) := by decide +kernel
theorem dX5_image_12 : decode cX5_image 12 = .ok (.iconst 1, 1) := by decide +kernel
theorem dX5_image_13 : decode cX5_image 13 = .ok (.putfield 227, 3) := by decide +kernel
theorem dX5_image_16 : decode cX5_image 16 = .ok (.iconst 1, 1) := by decide +kernel
theorem dX5_image_17 : decode cX5_image 17 = .ok (.ireturn, 1) := by decide +kernel
theorem dX5_undo_0 : decode cX5_undo 0 = .ok (.aload_n 0, 1) := by decide +kernel
theorem dX5_undo_1 : decode cX5_undo 1 = .ok (.getfield 227, 3) := by decide +kernel
theorem dX5_undo_4 : decode cX5_undo 4 = .ok (.ifCond .ne 9, 3) := by decide +kernel
theorem dX5_undo_7 : decode cX5_undo 7 = .ok (.aload_n 0, 1) := by decide +kernel
theorem dX5_undo_8 : decode cX5_undo 8 = .ok (.iconst 3, 1) := by decide +kernel
theorem dX5_undo_9 : decode cX5_undo 9 = .ok (.invokevirtual 64, 3) := by decide +kernel
theorem dX5_undo_12 : decode cX5_undo 12 = .ok (.ireturn, 1) := by decide +kernel
theorem dX5_undo_13 : decode cX5_undo 13 = .ok (.aload_n 0, 1) := by decide +kernel
theorem dX5_undo_14 : decode cX5_undo 14 = .ok (.getfield 10, 3) := by decide +kernel
theorem dX5_undo_17 : decode cX5_undo 17 = .ok (.aload_n 0, 1) := by decide +kernel
theorem dX5_undo_18 : decode cX5_undo 18 = .ok (.getfield 16, 3) := by decide +kernel
theorem dX5_undo_21 : decode cX5_undo 21 = .ok (.invokevirtual 126, 3) := by decide +kernel
theorem dX5_undo_24 : decode cX5_undo 24 = .ok (.aload_n 0, 1) := by decide +kernel
theorem dX5_undo_25 : decode cX5_undo 25 = .ok (.getfield 10, 3) := by decide +kernel
theorem dX5_undo_28 : decode cX5_undo 28 = .ok (.getfield 106, 3) := by decide +kernel
theorem dX5_undo_31 : decode cX5_undo 31 = .ok (.ireturn, 1) := by decide +kernel
theorem dX5_tear_0 : decode cX5_tear 0 = .ok (.aload_n 0, 1) := by decide +kernel
theorem dX5_tear_1 : decode cX5_tear 1 = .ok (.getfield 227, 3) := by decide +kernel
theorem dX5_tear_4 : decode cX5_tear 4 = .ok (.ifCond .eq 7, 3) := by decide +kernel
theorem dX5_tear_7 : decode cX5_tear 7 = .ok (.iconst 1, 1) := by decide +kernel
theorem dX5_tear_8 : decode cX5_tear 8 = .ok (.goto 4, 3) := by decide +kernel
theorem dX5_tear_11 : decode cX5_tear 11 = .ok (.iconst 0, 1) := by decide +kernel
theorem dX5_tear_12 : decode cX5_tear 12 = .ok (.istore_n 1, 1) := by decide +kernel
theorem dX5_tear_13 : decode cX5_tear 13 = .ok (.aload_n 0, 1) := by decide +kernel
theorem dX5_tear_14 : decode cX5_tear 14 = .ok (.iconst 0, 1) := by decide +kernel
theorem dX5_tear_15 : decode cX5_tear 15 = .ok (.putfield 227, 3) := by decide +kernel
theorem dX5_tear_18 : decode cX5_tear 18 = .ok (.iload_n 1, 1) := by decide +kernel
theorem dX5_tear_19 : decode cX5_tear 19 = .ok (.ireturn, 1) := by decide +kernel
theorem dX5_count_0 : decode cX5_count 0 = .ok (.iload_n 1, 1) := by decide +kernel
theorem dX5_count_1 : decode cX5_count 1 = .ok (.tableswitch 114 0 7 #[47, 55, 63, 74, 82, 90, 98, 106], 47) := by decide +kernel
theorem dX5_count_48 : decode cX5_count 48 = .ok (.aload_n 0, 1) := by decide +kernel
theorem dX5_count_49 : decode cX5_count 49 = .ok (.getfield 10, 3) := by decide +kernel
theorem dX5_count_52 : decode cX5_count 52 = .ok (.getfield 106, 3) := by decide +kernel
theorem dX5_count_55 : decode cX5_count 55 = .ok (.ireturn, 1) := by decide +kernel
theorem dX5_count_56 : decode cX5_count 56 = .ok (.aload_n 0, 1) := by decide +kernel
theorem dX5_count_57 : decode cX5_count 57 = .ok (.getfield 10, 3) := by decide +kernel
theorem dX5_count_60 : decode cX5_count 60 = .ok (.invokevirtual 231, 3) := by decide +kernel
theorem dX5_count_63 : decode cX5_count 63 = .ok (.ireturn, 1) := by decide +kernel
theorem dX5_count_64 : decode cX5_count 64 = .ok (.aload_n 0, 1) := by decide +kernel
theorem dX5_count_65 : decode cX5_count 65 = .ok (.getfield 10, 3) := by decide +kernel
theorem dX5_count_68 : decode cX5_count 68 = .ok (.invokevirtual 123, 3) := by decide +kernel
theorem dX5_count_71 : decode cX5_count 71 = .ok (.invokestatic 158, 3) := by decide +kernel
theorem dX5_count_74 : decode cX5_count 74 = .ok (.ireturn, 1) := by decide +kernel
theorem dX5_count_75 : decode cX5_count 75 = .ok (.aload_n 0, 1) := by decide +kernel
theorem dX5_count_76 : decode cX5_count 76 = .ok (.getfield 10, 3) := by decide +kernel
theorem dX5_count_79 : decode cX5_count 79 = .ok (.invokevirtual 117, 3) := by decide +kernel
theorem dX5_count_82 : decode cX5_count 82 = .ok (.ireturn, 1) := by decide +kernel
theorem dX5_count_83 : decode cX5_count 83 = .ok (.aload_n 0, 1) := by decide +kernel
theorem dX5_count_84 : decode cX5_count 84 = .ok (.getfield 10, 3) := by decide +kernel
theorem dX5_count_87 : decode cX5_count 87 = .ok (.getfield 114, 3) := by decide +kernel
theorem dX5_count_90 : decode cX5_count 90 = .ok (.ireturn, 1) := by decide +kernel
theorem dX5_count_91 : decode cX5_count 91 = .ok (.aload_n 0, 1) := by decide +kernel
theorem dX5_count_92 : decode cX5_count 92 = .ok (.getfield 29, 3) := by decide +kernel
theorem dX5_count_95 : decode cX5_count 95 = .ok (.getfield 183, 3) := by decide +kernel
theorem dX5_count_98 : decode cX5_count 98 = .ok (.ireturn, 1) := by decide +kernel
theorem dX5_count_99 : decode cX5_count 99 = .ok (.aload_n 0, 1) := by decide +kernel
theorem dX5_count_100 : decode cX5_count 100 = .ok (.getfield 10, 3) := by decide +kernel
theorem dX5_count_103 : decode cX5_count 103 = .ok (.getfield 180, 3) := by decide +kernel
theorem dX5_count_106 : decode cX5_count 106 = .ok (.ireturn, 1) := by decide +kernel
theorem dX5_count_107 : decode cX5_count 107 = .ok (.aload_n 0, 1) := by decide +kernel
theorem dX5_count_108 : decode cX5_count 108 = .ok (.getfield 10, 3) := by decide +kernel
theorem dX5_count_111 : decode cX5_count 111 = .ok (.invokevirtual 234, 3) := by decide +kernel
theorem dX5_count_114 : decode cX5_count 114 = .ok (.ireturn, 1) := by decide +kernel
theorem dX5_count_115 : decode cX5_count 115 = .ok (.aload_n 0, 1) := by decide +kernel
theorem dX5_count_116 : decode cX5_count 116 = .ok (.iconst 0, 1) := by decide +kernel
theorem dX5_count_117 : decode cX5_count 117 = .ok (.invokevirtual 64, 3) := by decide +kernel
theorem dX5_count_120 : decode cX5_count 120 = .ok (.ireturn, 1) := by decide +kernel
theorem dX5_status_0 : decode cX5_status 0 = .ok (.iload_n 1, 1) := by decide +kernel
theorem dX5_status_1 : decode cX5_status 1 = .ok (.iconst (-1), 1) := by decide +kernel
theorem dX5_status_2 : decode cX5_status 2 = .ok (.if_icmp .eq 18, 3) := by decide +kernel
theorem dX5_status_5 : decode cX5_status 5 = .ok (.iload_n 1, 1) := by decide +kernel
theorem dX5_status_6 : decode cX5_status 6 = .ok (.bipush 6, 2) := by decide +kernel
theorem dX5_status_8 : decode cX5_status 8 = .ok (.invokestatic 56, 3) := by decide +kernel
theorem dX5_status_11 : decode cX5_status 11 = .ok (.ifCond .ne 9, 3) := by decide +kernel
theorem dX5_status_14 : decode cX5_status 14 = .ok (.aload_n 0, 1) := by decide +kernel
theorem dX5_status_15 : decode cX5_status 15 = .ok (.iconst 0, 1) := by decide +kernel
theorem dX5_status_16 : decode cX5_status 16 = .ok (.invokevirtual 64, 3) := by decide +kernel
theorem dX5_status_19 : decode cX5_status 19 = .ok (.ireturn, 1) := by decide +kernel
theorem dX5_status_20 : decode cX5_status 20 = .ok (.iload_n 1, 1) := by decide +kernel
theorem dX5_status_21 : decode cX5_status 21 = .ok (.iconst (-1), 1) := by decide +kernel
theorem dX5_status_22 : decode cX5_status 22 = .ok (.if_icmp .eq 10, 3) := by decide +kernel
theorem dX5_status_25 : decode cX5_status 25 = .ok (.aload_n 0, 1) := by decide +kernel
theorem dX5_status_26 : decode cX5_status 26 = .ok (.getfield 48, 3) := by decide +kernel
theorem dX5_status_29 : decode cX5_status 29 = .ok (.iload_n 1, 1) := by decide +kernel
theorem dX5_status_30 : decode cX5_status 30 = .ok (.iaload, 1) := by decide +kernel
theorem dX5_status_31 : decode cX5_status 31 = .ok (.ireturn, 1) := by decide +kernel
theorem dX5_status_32 : decode cX5_status 32 = .ok (.iconst 0, 1) := by decide +kernel
theorem dX5_status_33 : decode cX5_status 33 = .ok (.istore_n 2, 1) := by decide +kernel
theorem dX5_status_34 : decode cX5_status 34 = .ok (.iconst 0, 1) := by decide +kernel
theorem dX5_status_35 : decode cX5_status 35 = .ok (.istore_n 3, 1) := by decide +kernel
theorem dX5_status_36 : decode cX5_status 36 = .ok (.iload_n 3, 1) := by decide +kernel
theorem dX5_status_37 : decode cX5_status 37 = .ok (.bipush 7, 2) := by decide +kernel
theorem dX5_status_39 : decode cX5_status 39 = .ok (.if_icmp .ge 18, 3) := by decide +kernel
theorem dX5_status_42 : decode cX5_status 42 = .ok (.iload_n 2, 1) := by decide +kernel
theorem dX5_status_43 : decode cX5_status 43 = .ok (.aload_n 0, 1) := by decide +kernel
theorem dX5_status_44 : decode cX5_status 44 = .ok (.getfield 48, 3) := by decide +kernel
theorem dX5_status_47 : decode cX5_status 47 = .ok (.iload_n 3, 1) := by decide +kernel
theorem dX5_status_48 : decode cX5_status 48 = .ok (.iaload, 1) := by decide +kernel
theorem dX5_status_49 : decode cX5_status 49 = .ok (.iadd, 1) := by decide +kernel
theorem dX5_status_50 : decode cX5_status 50 = .ok (.istore_n 2, 1) := by decide +kernel
theorem dX5_status_51 : decode cX5_status 51 = .ok (.iinc 3 1, 3) := by decide +kernel
theorem dX5_status_54 : decode cX5_status 54 = .ok (.goto (-18), 3) := by decide +kernel
theorem dX5_status_57 : decode cX5_status 57 = .ok (.iload_n 2, 1) := by decide +kernel
theorem dX5_status_58 : decode cX5_status 58 = .ok (.ireturn, 1) := by decide +kernel
theorem dX5_tell_0 : decode cX5_tell 0 = .ok (.aload_n 0, 1) := by decide +kernel
theorem dX5_tell_1 : decode cX5_tell 1 = .ok (.getfield 48, 3) := by decide +kernel
theorem dX5_tell_4 : decode cX5_tell 4 = .ok (.iload_n 1, 1) := by decide +kernel
theorem dX5_tell_5 : decode cX5_tell 5 = .ok (.dup2, 1) := by decide +kernel
theorem dX5_tell_6 : decode cX5_tell 6 = .ok (.iaload, 1) := by decide +kernel
theorem dX5_tell_7 : decode cX5_tell 7 = .ok (.iconst 1, 1) := by decide +kernel
theorem dX5_tell_8 : decode cX5_tell 8 = .ok (.iadd, 1) := by decide +kernel
theorem dX5_tell_9 : decode cX5_tell 9 = .ok (.iastore, 1) := by decide +kernel
theorem dX5_tell_10 : decode cX5_tell 10 = .ok (.ldc 237, 2) := by decide +kernel
theorem dX5_tell_12 : decode cX5_tell 12 = .ok (.iload_n 1, 1) := by decide +kernel
theorem dX5_tell_13 : decode cX5_tell 13 = .ok (.isub, 1) := by decide +kernel
theorem dX5_tell_14 : decode cX5_tell 14 = .ok (.ireturn, 1) := by decide +kernel
theorem dX5_isUpTo_0 : decode cX5_isUpTo 0 = .ok (.iload_n 0, 1) := by decide +kernel
theorem dX5_isUpTo_1 : decode cX5_isUpTo 1 = .ok (.ifCond .lt 12, 3) := by decide +kernel
theorem dX5_isUpTo_4 : decode cX5_isUpTo 4 = .ok (.iload_n 0, 1) := by decide +kernel
theorem dX5_isUpTo_5 : decode cX5_isUpTo 5 = .ok (.iload_n 1, 1) := by decide +kernel
theorem dX5_isUpTo_6 : decode cX5_isUpTo 6 = .ok (.if_icmp .gt 7, 3) := by decide +kernel
theorem dX5_isUpTo_9 : decode cX5_isUpTo 9 = .ok (.iconst 1, 1) := by decide +kernel
theorem dX5_isUpTo_10 : decode cX5_isUpTo 10 = .ok (.goto 4, 3) := by decide +kernel
theorem dX5_isUpTo_13 : decode cX5_isUpTo 13 = .ok (.iconst 0, 1) := by decide +kernel
theorem dX5_isUpTo_14 : decode cX5_isUpTo 14 = .ok (.ireturn, 1) := by decide +kernel
theorem dX5_isHouse_0 : decode cX5_isHouse 0 = .ok (.iload_n 0, 1) := by decide +kernel
theorem dX5_isHouse_1 : decode cX5_isHouse 1 = .ok (.bipush 10, 2) := by decide +kernel
theorem dX5_isHouse_3 : decode cX5_isHouse 3 = .ok (.invokestatic 56, 3) := by decide +kernel
theorem dX5_isHouse_6 : decode cX5_isHouse 6 = .ok (.ireturn, 1) := by decide +kernel
theorem dX5_isSpot_0 : decode cX5_isSpot 0 = .ok (.iload_n 0, 1) := by decide +kernel
theorem dX5_isSpot_1 : decode cX5_isSpot 1 = .ok (.bipush 9, 2) := by decide +kernel
theorem dX5_isSpot_3 : decode cX5_isSpot 3 = .ok (.invokestatic 56, 3) := by decide +kernel
theorem dX5_isSpot_6 : decode cX5_isSpot 6 = .ok (.ireturn, 1) := by decide +kernel
theorem dX5_isSheet_0 : decode cX5_isSheet 0 = .ok (.iload_n 0, 1) := by decide +kernel
theorem dX5_isSheet_1 : decode cX5_isSheet 1 = .ok (.iconst 3, 1) := by decide +kernel
theorem dX5_isSheet_2 : decode cX5_isSheet 2 = .ok (.invokestatic 56, 3) := by decide +kernel
theorem dX5_isSheet_5 : decode cX5_isSheet 5 = .ok (.ireturn, 1) := by decide +kernel
theorem dX5_seekSheet_0 : decode cX5_seekSheet 0 = .ok (.iload_n 1, 1) := by decide +kernel
theorem dX5_seekSheet_1 : decode cX5_seekSheet 1 = .ok (.invokestatic 202, 3) := by decide +kernel
theorem dX5_seekSheet_4 : decode cX5_seekSheet 4 = .ok (.ifCond .ne 9, 3) := by decide +kernel
theorem dX5_seekSheet_7 : decode cX5_seekSheet 7 = .ok (.aload_n 0, 1) := by decide +kernel
theorem dX5_seekSheet_8 : decode cX5_seekSheet 8 = .ok (.iconst 0, 1) := by decide +kernel
theorem dX5_seekSheet_9 : decode cX5_seekSheet 9 = .ok (.invokevirtual 64, 3) := by decide +kernel
theorem dX5_seekSheet_12 : decode cX5_seekSheet 12 = .ok (.ireturn, 1) := by decide +kernel
theorem dX5_seekSheet_13 : decode cX5_seekSheet 13 = .ok (.aload_n 0, 1) := by decide +kernel
theorem dX5_seekSheet_14 : decode cX5_seekSheet 14 = .ok (.getfield 44, 3) := by decide +kernel
theorem dX5_seekSheet_17 : decode cX5_seekSheet 17 = .ok (.iload_n 1, 1) := by decide +kernel
theorem dX5_seekSheet_18 : decode cX5_seekSheet 18 = .ok (.aaload, 1) := by decide +kernel
theorem dX5_seekSheet_19 : decode cX5_seekSheet 19 = .ok (.invokevirtual 212, 3) := by decide +kernel
theorem dX5_seekSheet_22 : decode cX5_seekSheet 22 = .ok (.ifCond .eq 11, 3) := by decide +kernel
theorem dX5_seekSheet_25 : decode cX5_seekSheet 25 = .ok (.aload_n 0, 1) := by decide +kernel
theorem dX5_seekSheet_26 : decode cX5_seekSheet 26 = .ok (.iconst 5, 1) := by decide +kernel
theorem dX5_seekSheet_27 : decode cX5_seekSheet 27 = .ok (.invokevirtual 64, 3) := by decide +kernel
theorem dX5_seekSheet_30 : decode cX5_seekSheet 30 = .ok (.goto 4, 3) := by decide +kernel
theorem dX5_seekSheet_33 : decode cX5_seekSheet 33 = .ok (.iconst 0, 1) := by decide +kernel
theorem dX5_seekSheet_34 : decode cX5_seekSheet 34 = .ok (.ireturn, 1) := by decide +kernel
theorem dX5_mostOf_0 : decode cX5_mostOf 0 = .ok (.iload_n 0, 1) := by decide +kernel
theorem dX5_mostOf_1 : decode cX5_mostOf 1 = .ok (.tableswitch 51 0 4 #[35, 38, 42, 45, 49], 35) := by decide +kernel
theorem dX5_mostOf_36 : decode cX5_mostOf 36 = .ok (.bipush 6, 2) := by decide +kernel
theorem dX5_mostOf_38 : decode cX5_mostOf 38 = .ok (.ireturn, 1) := by decide +kernel
theorem dX5_mostOf_39 : decode cX5_mostOf 39 = .ok (.sipush 9999, 3) := by decide +kernel
theorem dX5_mostOf_42 : decode cX5_mostOf 42 = .ok (.ireturn, 1) := by decide +kernel
theorem dX5_mostOf_43 : decode cX5_mostOf 43 = .ok (.bipush 99, 2) := by decide +kernel
theorem dX5_mostOf_45 : decode cX5_mostOf 45 = .ok (.ireturn, 1) := by decide +kernel
theorem dX5_mostOf_46 : decode cX5_mostOf 46 = .ok (.sipush 999, 3) := by decide +kernel
theorem dX5_mostOf_49 : decode cX5_mostOf 49 = .ok (.ireturn, 1) := by decide +kernel
theorem dX5_mostOf_50 : decode cX5_mostOf 50 = .ok (.iconst 1, 1) := by decide +kernel
theorem dX5_mostOf_51 : decode cX5_mostOf 51 = .ok (.ireturn, 1) := by decide +kernel
theorem dX5_mostOf_52 : decode cX5_mostOf 52 = .ok (.sipush 9999, 3) := by decide +kernel
theorem dX5_mostOf_55 : decode cX5_mostOf 55 = .ok (.ireturn, 1) := by decide +kernel
theorem dX5_lastIn_0 : decode cX5_lastIn 0 = .ok (.bipush 10, 2) := by decide +kernel
theorem dX5_lastIn_2 : decode cX5_lastIn 2 = .ok (.istore_n 1, 1) := by decide +kernel
theorem dX5_lastIn_3 : decode cX5_lastIn 3 = .ok (.iload_n 1, 1) := by decide +kernel
theorem dX5_lastIn_4 : decode cX5_lastIn 4 = .ok (.ifCond .le 17, 3) := by decide +kernel
theorem dX5_lastIn_7 : decode cX5_lastIn 7 = .ok (.iload_n 0, 1) := by decide +kernel
theorem dX5_lastIn_8 : decode cX5_lastIn 8 = .ok (.iload_n 1, 1) := by decide +kernel
theorem dX5_lastIn_9 : decode cX5_lastIn 9 = .ok (.ishr, 1) := by decide +kernel
theorem dX5_lastIn_10 : decode cX5_lastIn 10 = .ok (.iconst 1, 1) := by decide +kernel
theorem dX5_lastIn_11 : decode cX5_lastIn 11 = .ok (.iand, 1) := by decide +kernel
theorem dX5_lastIn_12 : decode cX5_lastIn 12 = .ok (.ifCond .ne 9, 3) := by decide +kernel
theorem dX5_lastIn_15 : decode cX5_lastIn 15 = .ok (.iinc 1 (-1), 3) := by decide +kernel
theorem dX5_lastIn_18 : decode cX5_lastIn 18 = .ok (.goto (-15), 3) := by decide +kernel
theorem dX5_lastIn_21 : decode cX5_lastIn 21 = .ok (.iload_n 1, 1) := by decide +kernel
theorem dX5_lastIn_22 : decode cX5_lastIn 22 = .ok (.ireturn, 1) := by decide +kernel
theorem dX5_isWaterAsBefore_0 : decode cX5_isWaterAsBefore 0 = .ok (.iconst 0, 1) := by decide +kernel
theorem dX5_isWaterAsBefore_1 : decode cX5_isWaterAsBefore 1 = .ok (.istore_n 1, 1) := by decide +kernel
theorem dX5_isWaterAsBefore_2 : decode cX5_isWaterAsBefore 2 = .ok (.iload_n 1, 1) := by decide +kernel
theorem dX5_isWaterAsBefore_3 : decode cX5_isWaterAsBefore 3 = .ok (.bipush 11, 2) := by decide +kernel
theorem dX5_isWaterAsBefore_5 : decode cX5_isWaterAsBefore 5 = .ok (.if_icmp .ge 29, 3) := by decide +kernel
theorem dX5_isWaterAsBefore_8 : decode cX5_isWaterAsBefore 8 = .ok (.aload_n 0, 1) := by decide +kernel
theorem dX5_isWaterAsBefore_9 : decode cX5_isWaterAsBefore 9 = .ok (.getfield 19, 3) := by decide +kernel
theorem dX5_isWaterAsBefore_12 : decode cX5_isWaterAsBefore 12 = .ok (.getfield 103, 3) := by decide +kernel
theorem dX5_isWaterAsBefore_15 : decode cX5_isWaterAsBefore 15 = .ok (.iload_n 1, 1) := by decide +kernel
theorem dX5_isWaterAsBefore_16 : decode cX5_isWaterAsBefore 16 = .ok (.iaload, 1) := by decide +kernel
theorem dX5_isWaterAsBefore_17 : decode cX5_isWaterAsBefore 17 = .ok (.aload_n 0, 1) := by decide +kernel
theorem dX5_isWaterAsBefore_18 : decode cX5_isWaterAsBefore 18 = .ok (.getfield 22, 3) := by decide +kernel
theorem dX5_isWaterAsBefore_21 : decode cX5_isWaterAsBefore 21 = .ok (.iload_n 1, 1) := by decide +kernel
theorem dX5_isWaterAsBefore_22 : decode cX5_isWaterAsBefore 22 = .ok (.iaload, 1) := by decide +kernel
theorem dX5_isWaterAsBefore_23 : decode cX5_isWaterAsBefore 23 = .ok (.if_icmp .eq 5, 3) := by decide +kernel
theorem dX5_isWaterAsBefore_26 : decode cX5_isWaterAsBefore 26 = .ok (.iconst 0, 1) := by decide +kernel
theorem dX5_isWaterAsBefore_27 : decode cX5_isWaterAsBefore 27 = .ok (.ireturn, 1) := by decide +kernel
theorem dX5_isWaterAsBefore_28 : decode cX5_isWaterAsBefore 28 = .ok (.iinc 1 1, 3) := by decide +kernel
theorem dX5_isWaterAsBefore_31 : decode cX5_isWaterAsBefore 31 = .ok (.goto (-29), 3) := by decide +kernel
theorem dX5_isWaterAsBefore_34 : decode cX5_isWaterAsBefore 34 = .ok (.iconst 1, 1) := by decide +kernel
theorem dX5_isWaterAsBefore_35 : decode cX5_isWaterAsBefore 35 = .ok (.ireturn, 1) := by decide +kernel
theorem dX5_tryTurned_0 : decode cX5_tryTurned 0 = .ok (.aload_n 0, 1) := by decide +kernel
theorem dX5_tryTurned_1 : decode cX5_tryTurned 1 = .ok (.getfield 19, 3) := by decide +kernel
theorem dX5_tryTurned_4 : decode cX5_tryTurned 4 = .ok (.aload_n 0, 1) := by decide +kernel
theorem dX5_tryTurned_5 : decode cX5_tryTurned 5 = .ok (.getfield 10, 3) := by decide +kernel
theorem dX5_tryTurned_8 : decode cX5_tryTurned 8 = .ok (.invokevirtual 126, 3) := by decide +kernel
theorem dX5_tryTurned_11 : decode cX5_tryTurned 11 = .ok (.iconst 0, 1) := by decide +kernel
theorem dX5_tryTurned_12 : decode cX5_tryTurned 12 = .ok (.istore_n 2, 1) := by decide +kernel
theorem dX5_tryTurned_13 : decode cX5_tryTurned 13 = .ok (.iload_n 2, 1) := by decide +kernel
theorem dX5_tryTurned_14 : decode cX5_tryTurned 14 = .ok (.bipush 11, 2) := by decide +kernel
theorem dX5_tryTurned_16 : decode cX5_tryTurned 16 = .ok (.if_icmp .ge 26, 3) := by decide +kernel
theorem dX5_tryTurned_19 : decode cX5_tryTurned 19 = .ok (.aload_n 0, 1) := by decide +kernel
theorem dX5_tryTurned_20 : decode cX5_tryTurned 20 = .ok (.getfield 19, 3) := by decide +kernel
theorem dX5_tryTurned_23 : decode cX5_tryTurned 23 = .ok (.getfield 96, 3) := by decide +kernel
theorem dX5_tryTurned_26 : decode cX5_tryTurned 26 = .ok (.iload_n 2, 1) := by decide +kernel
theorem dX5_tryTurned_27 : decode cX5_tryTurned 27 = .ok (.dup2, 1) := by decide +kernel
theorem dX5_tryTurned_28 : decode cX5_tryTurned 28 = .ok (.iaload, 1) := by decide +kernel
theorem dX5_tryTurned_29 : decode cX5_tryTurned 29 = .ok (.iload_n 1, 1) := by decide +kernel
theorem dX5_tryTurned_30 : decode cX5_tryTurned 30 = .ok (.iload_n 2, 1) := by decide +kernel
theorem dX5_tryTurned_31 : decode cX5_tryTurned 31 = .ok (.ishr, 1) := by decide +kernel
theorem dX5_tryTurned_32 : decode cX5_tryTurned 32 = .ok (.iconst 1, 1) := by decide +kernel
theorem dX5_tryTurned_33 : decode cX5_tryTurned 33 = .ok (.iand, 1) := by decide +kernel
theorem dX5_tryTurned_34 : decode cX5_tryTurned 34 = .ok (.ixor, 1) := by decide +kernel
theorem dX5_tryTurned_35 : decode cX5_tryTurned 35 = .ok (.iastore, 1) := by decide +kernel
theorem dX5_tryTurned_36 : decode cX5_tryTurned 36 = .ok (.iinc 2 1, 3) := by decide +kernel
theorem dX5_tryTurned_39 : decode cX5_tryTurned 39 = .ok (.goto (-26), 3) := by decide +kernel
theorem dX5_tryTurned_42 : decode cX5_tryTurned 42 = .ok (.return_, 1) := by decide +kernel
theorem dX5_tryWith_0 : decode cX5_tryWith 0 = .ok (.aload_n 0, 1) := by decide +kernel
theorem dX5_tryWith_1 : decode cX5_tryWith 1 = .ok (.getfield 19, 3) := by decide +kernel
theorem dX5_tryWith_4 : decode cX5_tryWith 4 = .ok (.aload_n 0, 1) := by decide +kernel
theorem dX5_tryWith_5 : decode cX5_tryWith 5 = .ok (.getfield 10, 3) := by decide +kernel
theorem dX5_tryWith_8 : decode cX5_tryWith 8 = .ok (.invokevirtual 126, 3) := by decide +kernel
theorem dX5_tryWith_11 : decode cX5_tryWith 11 = .ok (.iload_n 1, 1) := by decide +kernel
theorem dX5_tryWith_12 : decode cX5_tryWith 12 = .ok (.bipush 6, 2) := by decide +kernel
theorem dX5_tryWith_14 : decode cX5_tryWith 14 = .ok (.if_icmp .ne 14, 3) := by decide +kernel
theorem dX5_tryWith_17 : decode cX5_tryWith 17 = .ok (.aload_n 0, 1) := by decide +kernel
theorem dX5_tryWith_18 : decode cX5_tryWith 18 = .ok (.getfield 19, 3) := by decide +kernel
theorem dX5_tryWith_21 : decode cX5_tryWith 21 = .ok (.iload_n 2, 1) := by decide +kernel
theorem dX5_tryWith_22 : decode cX5_tryWith 22 = .ok (.putfield 88, 3) := by decide +kernel
theorem dX5_tryWith_25 : decode cX5_tryWith 25 = .ok (.goto 14, 3) := by decide +kernel
theorem dX5_tryWith_28 : decode cX5_tryWith 28 = .ok (.aload_n 0, 1) := by decide +kernel
theorem dX5_tryWith_29 : decode cX5_tryWith 29 = .ok (.getfield 19, 3) := by decide +kernel
theorem dX5_tryWith_32 : decode cX5_tryWith 32 = .ok (.iload_n 1, 1) := by decide +kernel
theorem dX5_tryWith_33 : decode cX5_tryWith 33 = .ok (.invokevirtual 67, 3) := by decide +kernel
theorem dX5_tryWith_36 : decode cX5_tryWith 36 = .ok (.iload_n 3, 1) := by decide +kernel
theorem dX5_tryWith_37 : decode cX5_tryWith 37 = .ok (.iload_n 2, 1) := by decide +kernel
theorem dX5_tryWith_38 : decode cX5_tryWith 38 = .ok (.iastore, 1) := by decide +kernel
theorem dX5_tryWith_39 : decode cX5_tryWith 39 = .ok (.return_, 1) := by decide +kernel
theorem dX5_staysWetTurned_0 : decode cX5_staysWetTurned 0 = .ok (.aload_n 0, 1) := by decide +kernel
theorem dX5_staysWetTurned_1 : decode cX5_staysWetTurned 1 = .ok (.iload_n 1, 1) := by decide +kernel
theorem dX5_staysWetTurned_2 : decode cX5_staysWetTurned 2 = .ok (.invokevirtual 166, 3) := by decide +kernel
theorem dX5_staysWetTurned_5 : decode cX5_staysWetTurned 5 = .ok (.aload_n 0, 1) := by decide +kernel
theorem dX5_staysWetTurned_6 : decode cX5_staysWetTurned 6 = .ok (.getfield 19, 3) := by decide +kernel
theorem dX5_staysWetTurned_9 : decode cX5_staysWetTurned 9 = .ok (.iload_n 2, 1) := by decide +kernel
theorem dX5_staysWetTurned_10 : decode cX5_staysWetTurned 10 = .ok (.iload_n 3, 1) := by decide +kernel
theorem dX5_staysWetTurned_11 : decode cX5_staysWetTurned 11 = .ok (.iload 4, 2) := by decide +kernel
theorem dX5_staysWetTurned_13 : decode cX5_staysWetTurned 13 = .ok (.invokevirtual 238, 3) := by decide +kernel
theorem dX5_staysWetTurned_16 : decode cX5_staysWetTurned 16 = .ok (.ireturn, 1) := by decide +kernel
theorem dX5_staysWetWith_0 : decode cX5_staysWetWith 0 = .ok (.aload_n 0, 1) := by decide +kernel
theorem dX5_staysWetWith_1 : decode cX5_staysWetWith 1 = .ok (.iload_n 1, 1) := by decide +kernel
theorem dX5_staysWetWith_2 : decode cX5_staysWetWith 2 = .ok (.iload_n 2, 1) := by decide +kernel
theorem dX5_staysWetWith_3 : decode cX5_staysWetWith 3 = .ok (.iload_n 3, 1) := by decide +kernel
theorem dX5_staysWetWith_4 : decode cX5_staysWetWith 4 = .ok (.invokevirtual 151, 3) := by decide +kernel
theorem dX5_staysWetWith_7 : decode cX5_staysWetWith 7 = .ok (.aload_n 0, 1) := by decide +kernel
theorem dX5_staysWetWith_8 : decode cX5_staysWetWith 8 = .ok (.getfield 19, 3) := by decide +kernel
theorem dX5_staysWetWith_11 : decode cX5_staysWetWith 11 = .ok (.iconst 1, 1) := by decide +kernel
theorem dX5_staysWetWith_12 : decode cX5_staysWetWith 12 = .ok (.iload_n 3, 1) := by decide +kernel
theorem dX5_staysWetWith_13 : decode cX5_staysWetWith 13 = .ok (.ishl, 1) := by decide +kernel
theorem dX5_staysWetWith_14 : decode cX5_staysWetWith 14 = .ok (.iload_n 3, 1) := by decide +kernel
theorem dX5_staysWetWith_15 : decode cX5_staysWetWith 15 = .ok (.iload 4, 2) := by decide +kernel
theorem dX5_staysWetWith_17 : decode cX5_staysWetWith 17 = .ok (.invokevirtual 238, 3) := by decide +kernel
theorem dX5_staysWetWith_20 : decode cX5_staysWetWith 20 = .ok (.ireturn, 1) := by decide +kernel
theorem dX5_leastFor_0 : decode cX5_leastFor 0 = .ok (.aload_n 0, 1) := by decide +kernel
theorem dX5_leastFor_1 : decode cX5_leastFor 1 = .ok (.iload_n 1, 1) := by decide +kernel
theorem dX5_leastFor_2 : decode cX5_leastFor 2 = .ok (.iload_n 2, 1) := by decide +kernel
theorem dX5_leastFor_3 : decode cX5_leastFor 3 = .ok (.iload_n 3, 1) := by decide +kernel
theorem dX5_leastFor_4 : decode cX5_leastFor 4 = .ok (.iload 4, 2) := by decide +kernel
theorem dX5_leastFor_6 : decode cX5_leastFor 6 = .ok (.invokevirtual 147, 3) := by decide +kernel
theorem dX5_leastFor_9 : decode cX5_leastFor 9 = .ok (.ifCond .ne 9, 3) := by decide +kernel
theorem dX5_leastFor_12 : decode cX5_leastFor 12 = .ok (.aload_n 0, 1) := by decide +kernel
theorem dX5_leastFor_13 : decode cX5_leastFor 13 = .ok (.iconst 3, 1) := by decide +kernel
theorem dX5_leastFor_14 : decode cX5_leastFor 14 = .ok (.invokevirtual 64, 3) := by decide +kernel
theorem dX5_leastFor_17 : decode cX5_leastFor 17 = .ok (.ireturn, 1) := by decide +kernel
theorem dX5_leastFor_18 : decode cX5_leastFor 18 = .ok (.iconst 0, 1) := by decide +kernel
theorem dX5_leastFor_19 : decode cX5_leastFor 19 = .ok (.istore 5, 2) := by decide +kernel
theorem dX5_leastFor_21 : decode cX5_leastFor 21 = .ok (.iload_n 2, 1) := by decide +kernel
theorem dX5_leastFor_22 : decode cX5_leastFor 22 = .ok (.istore 6, 2) := by decide +kernel
theorem dX5_leastFor_24 : decode cX5_leastFor 24 = .ok (.iconst 0, 1) := by decide +kernel
theorem dX5_leastFor_25 : decode cX5_leastFor 25 = .ok (.istore 7, 2) := by decide +kernel
theorem dX5_leastFor_27 : decode cX5_leastFor 27 = .ok (.iload 7, 2) := by decide +kernel
theorem dX5_leastFor_29 : decode cX5_leastFor 29 = .ok (.bipush 10, 2) := by decide +kernel
theorem dX5_leastFor_31 : decode cX5_leastFor 31 = .ok (.if_icmp .ge 51, 3) := by decide +kernel
theorem dX5_leastFor_34 : decode cX5_leastFor 34 = .ok (.iload 5, 2) := by decide +kernel
theorem dX5_leastFor_36 : decode cX5_leastFor 36 = .ok (.iload 6, 2) := by decide +kernel
theorem dX5_leastFor_38 : decode cX5_leastFor 38 = .ok (.if_icmp .ge 44, 3) := by decide +kernel
theorem dX5_leastFor_41 : decode cX5_leastFor 41 = .ok (.iload 5, 2) := by decide +kernel
theorem dX5_leastFor_43 : decode cX5_leastFor 43 = .ok (.iload 6, 2) := by decide +kernel
theorem dX5_leastFor_45 : decode cX5_leastFor 45 = .ok (.iadd, 1) := by decide +kernel
theorem dX5_leastFor_46 : decode cX5_leastFor 46 = .ok (.iconst 2, 1) := by decide +kernel
theorem dX5_leastFor_47 : decode cX5_leastFor 47 = .ok (.idiv, 1) := by decide +kernel
theorem dX5_leastFor_48 : decode cX5_leastFor 48 = .ok (.istore 8, 2) := by decide +kernel
theorem dX5_leastFor_50 : decode cX5_leastFor 50 = .ok (.aload_n 0, 1) := by decide +kernel
theorem dX5_leastFor_51 : decode cX5_leastFor 51 = .ok (.iload_n 1, 1) := by decide +kernel
theorem dX5_leastFor_52 : decode cX5_leastFor 52 = .ok (.iload 8, 2) := by decide +kernel
theorem dX5_leastFor_54 : decode cX5_leastFor 54 = .ok (.iload_n 3, 1) := by decide +kernel
theorem dX5_leastFor_55 : decode cX5_leastFor 55 = .ok (.iload 4, 2) := by decide +kernel
theorem dX5_leastFor_57 : decode cX5_leastFor 57 = .ok (.invokevirtual 147, 3) := by decide +kernel
theorem dX5_leastFor_60 : decode cX5_leastFor 60 = .ok (.ifCond .eq 10, 3) := by decide +kernel
theorem dX5_leastFor_63 : decode cX5_leastFor 63 = .ok (.iload 8, 2) := by decide +kernel
theorem dX5_leastFor_65 : decode cX5_leastFor 65 = .ok (.istore 6, 2) := by decide +kernel
theorem dX5_leastFor_67 : decode cX5_leastFor 67 = .ok (.goto 9, 3) := by decide +kernel
theorem dX5_leastFor_70 : decode cX5_leastFor 70 = .ok (.iload 8, 2) := by decide +kernel
theorem dX5_leastFor_72 : decode cX5_leastFor 72 = .ok (.iconst 1, 1) := by decide +kernel
theorem dX5_leastFor_73 : decode cX5_leastFor 73 = .ok (.iadd, 1) := by decide +kernel
theorem dX5_leastFor_74 : decode cX5_leastFor 74 = .ok (.istore 5, 2) := by decide +kernel
theorem dX5_leastFor_76 : decode cX5_leastFor 76 = .ok (.iinc 7 1, 3) := by decide +kernel
theorem dX5_leastFor_79 : decode cX5_leastFor 79 = .ok (.goto (-52), 3) := by decide +kernel
theorem dX5_leastFor_82 : decode cX5_leastFor 82 = .ok (.iload 5, 2) := by decide +kernel
theorem dX5_leastFor_84 : decode cX5_leastFor 84 = .ok (.ireturn, 1) := by decide +kernel
theorem dX5_isTrialAsSeen_0 : decode cX5_isTrialAsSeen 0 = .ok (.iconst 0, 1) := by decide +kernel
theorem dX5_isTrialAsSeen_1 : decode cX5_isTrialAsSeen 1 = .ok (.istore_n 3, 1) := by decide +kernel
theorem dX5_isTrialAsSeen_2 : decode cX5_isTrialAsSeen 2 = .ok (.iload_n 3, 1) := by decide +kernel
theorem dX5_isTrialAsSeen_3 : decode cX5_isTrialAsSeen 3 = .ok (.aload_n 1, 1) := by decide +kernel
theorem dX5_isTrialAsSeen_4 : decode cX5_isTrialAsSeen 4 = .ok (.getfield 208, 3) := by decide +kernel
theorem dX5_isTrialAsSeen_7 : decode cX5_isTrialAsSeen 7 = .ok (.if_icmp .ge 52, 3) := by decide +kernel
theorem dX5_isTrialAsSeen_10 : decode cX5_isTrialAsSeen 10 = .ok (.iload_n 3, 1) := by decide +kernel
theorem dX5_isTrialAsSeen_11 : decode cX5_isTrialAsSeen 11 = .ok (.ifCond .le 12, 3) := by decide +kernel
theorem dX5_isTrialAsSeen_14 : decode cX5_isTrialAsSeen 14 = .ok (.aload_n 0, 1) := by decide +kernel
theorem dX5_isTrialAsSeen_15 : decode cX5_isTrialAsSeen 15 = .ok (.getfield 19, 3) := by decide +kernel
theorem dX5_isTrialAsSeen_18 : decode cX5_isTrialAsSeen 18 = .ok (.iload_n 2, 1) := by decide +kernel
theorem dX5_isTrialAsSeen_19 : decode cX5_isTrialAsSeen 19 = .ok (.invokevirtual 130, 3) := by decide +kernel
theorem dX5_isTrialAsSeen_22 : decode cX5_isTrialAsSeen 22 = .ok (.pop, 1) := by decide +kernel
theorem dX5_isTrialAsSeen_23 : decode cX5_isTrialAsSeen 23 = .ok (.aload_n 1, 1) := by decide +kernel
theorem dX5_isTrialAsSeen_24 : decode cX5_isTrialAsSeen 24 = .ok (.getfield 221, 3) := by decide +kernel
theorem dX5_isTrialAsSeen_27 : decode cX5_isTrialAsSeen 27 = .ok (.iload_n 3, 1) := by decide +kernel
theorem dX5_isTrialAsSeen_28 : decode cX5_isTrialAsSeen 28 = .ok (.iaload, 1) := by decide +kernel
theorem dX5_isTrialAsSeen_29 : decode cX5_isTrialAsSeen 29 = .ok (.iconst (-1), 1) := by decide +kernel
theorem dX5_isTrialAsSeen_30 : decode cX5_isTrialAsSeen 30 = .ok (.if_icmp .eq 23, 3) := by decide +kernel
theorem dX5_isTrialAsSeen_33 : decode cX5_isTrialAsSeen 33 = .ok (.aload_n 1, 1) := by decide +kernel
theorem dX5_isTrialAsSeen_34 : decode cX5_isTrialAsSeen 34 = .ok (.getfield 221, 3) := by decide +kernel
theorem dX5_isTrialAsSeen_37 : decode cX5_isTrialAsSeen 37 = .ok (.iload_n 3, 1) := by decide +kernel
theorem dX5_isTrialAsSeen_38 : decode cX5_isTrialAsSeen 38 = .ok (.iaload, 1) := by decide +kernel
theorem dX5_isTrialAsSeen_39 : decode cX5_isTrialAsSeen 39 = .ok (.aload_n 0, 1) := by decide +kernel
theorem dX5_isTrialAsSeen_40 : decode cX5_isTrialAsSeen 40 = .ok (.getfield 19, 3) := by decide +kernel
theorem dX5_isTrialAsSeen_43 : decode cX5_isTrialAsSeen 43 = .ok (.getfield 103, 3) := by decide +kernel
theorem dX5_isTrialAsSeen_46 : decode cX5_isTrialAsSeen 46 = .ok (.iload_n 2, 1) := by decide +kernel
theorem dX5_isTrialAsSeen_47 : decode cX5_isTrialAsSeen 47 = .ok (.iaload, 1) := by decide +kernel
theorem dX5_isTrialAsSeen_48 : decode cX5_isTrialAsSeen 48 = .ok (.if_icmp .eq 5, 3) := by decide +kernel
theorem dX5_isTrialAsSeen_51 : decode cX5_isTrialAsSeen 51 = .ok (.iconst 0, 1) := by decide +kernel
theorem dX5_isTrialAsSeen_52 : decode cX5_isTrialAsSeen 52 = .ok (.ireturn, 1) := by decide +kernel

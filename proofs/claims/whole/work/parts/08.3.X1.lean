theorem dX1_init_0 : decode mX1_init.2.1 0 = .ok (.aload_n 0, 1) := by decide +kernel
theorem dX1_init_1 : decode mX1_init.2.1 1 = .ok (.invokespecial 3, 3) := by decide +kernel
theorem dX1_init_4 : decode mX1_init.2.1 4 = .ok (.aload_n 0, 1) := by decide +kernel
theorem dX1_init_5 : decode mX1_init.2.1 5 = .ok (.iconst 0, 1) := by decide +kernel
theorem dX1_init_6 : decode mX1_init.2.1 6 = .ok (.putfield 9, 3) := by decide +kernel
theorem dX1_init_9 : decode mX1_init.2.1 9 = .ok (.aload_n 0, 1) := by decide +kernel
theorem dX1_init_10 : decode mX1_init.2.1 10 = .ok (.iconst 0, 1) := by decide +kernel
theorem dX1_init_11 : decode mX1_init.2.1 11 = .ok (.putfield 15, 3) := by decide +kernel
theorem dX1_init_14 : decode mX1_init.2.1 14 = .ok (.aload_n 0, 1) := by decide +kernel
theorem dX1_init_15 : decode mX1_init.2.1 15 = .ok (.bipush 30, 2) := by decide +kernel
theorem dX1_init_17 : decode mX1_init.2.1 17 = .ok (.newarray .int, 2) := by decide +kernel
theorem dX1_init_19 : decode mX1_init.2.1 19 = .ok (.putfield 18, 3) := by decide +kernel
theorem dX1_init_22 : decode mX1_init.2.1 22 = .ok (.aload_n 0, 1) := by decide +kernel
theorem dX1_init_23 : decode mX1_init.2.1 23 = .ok (.bipush 30, 2) := by decide +kernel
theorem dX1_init_25 : decode mX1_init.2.1 25 = .ok (.newarray .int, 2) := by decide +kernel
theorem dX1_init_27 : decode mX1_init.2.1 27 = .ok (.putfield 22, 3) := by decide +kernel
theorem dX1_init_30 : decode mX1_init.2.1 30 = .ok (.aload_n 0, 1) := by decide +kernel
theorem dX1_init_31 : decode mX1_init.2.1 31 = .ok (.bipush 30, 2) := by decide +kernel
theorem dX1_init_33 : decode mX1_init.2.1 33 = .ok (.newarray .int, 2) := by decide +kernel
theorem dX1_init_35 : decode mX1_init.2.1 35 = .ok (.putfield 25, 3) := by decide +kernel
theorem dX1_init_38 : decode mX1_init.2.1 38 = .ok (.aload_n 0, 1) := by decide +kernel
theorem dX1_init_39 : decode mX1_init.2.1 39 = .ok (.bipush 30, 2) := by decide +kernel
theorem dX1_init_41 : decode mX1_init.2.1 41 = .ok (.newarray .int, 2) := by decide +kernel
theorem dX1_init_43 : decode mX1_init.2.1 43 = .ok (.putfield 28, 3) := by decide +kernel
theorem dX1_init_46 : decode mX1_init.2.1 46 = .ok (.aload_n 0, 1) := by decide +kernel
theorem dX1_init_47 : decode mX1_init.2.1 47 = .ok (.bipush 50, 2) := by decide +kernel
theorem dX1_init_49 : decode mX1_init.2.1 49 = .ok (.newarray .int, 2) := by decide +kernel
theorem dX1_init_51 : decode mX1_init.2.1 51 = .ok (.putfield 31, 3) := by decide +kernel
theorem dX1_init_54 : decode mX1_init.2.1 54 = .ok (.aload_n 0, 1) := by decide +kernel
theorem dX1_init_55 : decode mX1_init.2.1 55 = .ok (.bipush 50, 2) := by decide +kernel
theorem dX1_init_57 : decode mX1_init.2.1 57 = .ok (.newarray .int, 2) := by decide +kernel
theorem dX1_init_59 : decode mX1_init.2.1 59 = .ok (.putfield 34, 3) := by decide +kernel
theorem dX1_init_62 : decode mX1_init.2.1 62 = .ok (.return_, 1) := by decide +kernel
theorem dX1_noteRate_0 : decode mX1_noteRate.2.1 0 = .ok (.aload_n 0, 1) := by decide +kernel
theorem dX1_noteRate_1 : decode mX1_noteRate.2.1 1 = .ok (.getfield 9, 3) := by decide +kernel
theorem dX1_noteRate_4 : decode mX1_noteRate.2.1 4 = .ok (.bipush 30, 2) := by decide +kernel
theorem dX1_noteRate_6 : decode mX1_noteRate.2.1 6 = .ok (.if_icmp .lt 6, 3) := by decide +kernel
theorem dX1_noteRate_9 : decode mX1_noteRate.2.1 9 = .ok (.bipush (-6), 2) := by decide +kernel
theorem dX1_noteRate_11 : decode mX1_noteRate.2.1 11 = .ok (.ireturn, 1) := by decide +kernel
theorem dX1_noteRate_12 : decode mX1_noteRate.2.1 12 = .ok (.aload_n 0, 1) := by decide +kernel
theorem dX1_noteRate_13 : decode mX1_noteRate.2.1 13 = .ok (.getfield 18, 3) := by decide +kernel
theorem dX1_noteRate_16 : decode mX1_noteRate.2.1 16 = .ok (.aload_n 0, 1) := by decide +kernel
theorem dX1_noteRate_17 : decode mX1_noteRate.2.1 17 = .ok (.getfield 9, 3) := by decide +kernel
theorem dX1_noteRate_20 : decode mX1_noteRate.2.1 20 = .ok (.iload_n 1, 1) := by decide +kernel
theorem dX1_noteRate_21 : decode mX1_noteRate.2.1 21 = .ok (.iastore, 1) := by decide +kernel
theorem dX1_noteRate_22 : decode mX1_noteRate.2.1 22 = .ok (.aload_n 0, 1) := by decide +kernel
theorem dX1_noteRate_23 : decode mX1_noteRate.2.1 23 = .ok (.getfield 22, 3) := by decide +kernel
theorem dX1_noteRate_26 : decode mX1_noteRate.2.1 26 = .ok (.aload_n 0, 1) := by decide +kernel
theorem dX1_noteRate_27 : decode mX1_noteRate.2.1 27 = .ok (.getfield 9, 3) := by decide +kernel
theorem dX1_noteRate_30 : decode mX1_noteRate.2.1 30 = .ok (.iload_n 2, 1) := by decide +kernel
theorem dX1_noteRate_31 : decode mX1_noteRate.2.1 31 = .ok (.iastore, 1) := by decide +kernel
theorem dX1_noteRate_32 : decode mX1_noteRate.2.1 32 = .ok (.aload_n 0, 1) := by decide +kernel
theorem dX1_noteRate_33 : decode mX1_noteRate.2.1 33 = .ok (.getfield 25, 3) := by decide +kernel
theorem dX1_noteRate_36 : decode mX1_noteRate.2.1 36 = .ok (.aload_n 0, 1) := by decide +kernel
theorem dX1_noteRate_37 : decode mX1_noteRate.2.1 37 = .ok (.getfield 9, 3) := by decide +kernel
theorem dX1_noteRate_40 : decode mX1_noteRate.2.1 40 = .ok (.iload_n 3, 1) := by decide +kernel
theorem dX1_noteRate_41 : decode mX1_noteRate.2.1 41 = .ok (.iastore, 1) := by decide +kernel
theorem dX1_noteRate_42 : decode mX1_noteRate.2.1 42 = .ok (.aload_n 0, 1) := by decide +kernel
theorem dX1_noteRate_43 : decode mX1_noteRate.2.1 43 = .ok (.getfield 28, 3) := by decide +kernel
theorem dX1_noteRate_46 : decode mX1_noteRate.2.1 46 = .ok (.aload_n 0, 1) := by decide +kernel
theorem dX1_noteRate_47 : decode mX1_noteRate.2.1 47 = .ok (.getfield 9, 3) := by decide +kernel
theorem dX1_noteRate_50 : decode mX1_noteRate.2.1 50 = .ok (.iload 4, 2) := by decide +kernel
theorem dX1_noteRate_52 : decode mX1_noteRate.2.1 52 = .ok (.iastore, 1) := by decide +kernel
theorem dX1_noteRate_53 : decode mX1_noteRate.2.1 53 = .ok (.aload_n 0, 1) := by decide +kernel
theorem dX1_noteRate_54 : decode mX1_noteRate.2.1 54 = .ok (.dup, 1) := by decide +kernel
theorem dX1_noteRate_55 : decode mX1_noteRate.2.1 55 = .ok (.getfield 9, 3) := by decide +kernel
theorem dX1_noteRate_58 : decode mX1_noteRate.2.1 58 = .ok (.iconst 1, 1) := by decide +kernel
theorem dX1_noteRate_59 : decode mX1_noteRate.2.1 59 = .ok (.iadd, 1) := by decide +kernel
theorem dX1_noteRate_60 : decode mX1_noteRate.2.1 60 = .ok (.putfield 9, 3) := by decide +kernel
theorem dX1_noteRate_63 : decode mX1_noteRate.2.1 63 = .ok (.aload_n 0, 1) := by decide +kernel
theorem dX1_noteRate_64 : decode mX1_noteRate.2.1 64 = .ok (.getfield 9, 3) := by decide +kernel
theorem dX1_noteRate_67 : decode mX1_noteRate.2.1 67 = .ok (.ireturn, 1) := by decide +kernel
theorem dX1_notePass_0 : decode mX1_notePass.2.1 0 = .ok (.aload_n 0, 1) := by decide +kernel
theorem dX1_notePass_1 : decode mX1_notePass.2.1 1 = .ok (.getfield 15, 3) := by decide +kernel
theorem dX1_notePass_4 : decode mX1_notePass.2.1 4 = .ok (.bipush 50, 2) := by decide +kernel
theorem dX1_notePass_6 : decode mX1_notePass.2.1 6 = .ok (.if_icmp .lt 4, 3) := by decide +kernel
theorem dX1_notePass_9 : decode mX1_notePass.2.1 9 = .ok (.return_, 1) := by decide +kernel
theorem dX1_notePass_10 : decode mX1_notePass.2.1 10 = .ok (.aload_n 0, 1) := by decide +kernel
theorem dX1_notePass_11 : decode mX1_notePass.2.1 11 = .ok (.getfield 31, 3) := by decide +kernel
theorem dX1_notePass_14 : decode mX1_notePass.2.1 14 = .ok (.aload_n 0, 1) := by decide +kernel
theorem dX1_notePass_15 : decode mX1_notePass.2.1 15 = .ok (.getfield 15, 3) := by decide +kernel
theorem dX1_notePass_18 : decode mX1_notePass.2.1 18 = .ok (.iload_n 1, 1) := by decide +kernel
theorem dX1_notePass_19 : decode mX1_notePass.2.1 19 = .ok (.iastore, 1) := by decide +kernel
theorem dX1_notePass_20 : decode mX1_notePass.2.1 20 = .ok (.aload_n 0, 1) := by decide +kernel
theorem dX1_notePass_21 : decode mX1_notePass.2.1 21 = .ok (.getfield 34, 3) := by decide +kernel
theorem dX1_notePass_24 : decode mX1_notePass.2.1 24 = .ok (.aload_n 0, 1) := by decide +kernel
theorem dX1_notePass_25 : decode mX1_notePass.2.1 25 = .ok (.getfield 15, 3) := by decide +kernel
theorem dX1_notePass_28 : decode mX1_notePass.2.1 28 = .ok (.iload_n 2, 1) := by decide +kernel
theorem dX1_notePass_29 : decode mX1_notePass.2.1 29 = .ok (.iastore, 1) := by decide +kernel
theorem dX1_notePass_30 : decode mX1_notePass.2.1 30 = .ok (.aload_n 0, 1) := by decide +kernel
theorem dX1_notePass_31 : decode mX1_notePass.2.1 31 = .ok (.dup, 1) := by decide +kernel
theorem dX1_notePass_32 : decode mX1_notePass.2.1 32 = .ok (.getfield 15, 3) := by decide +kernel
theorem dX1_notePass_35 : decode mX1_notePass.2.1 35 = .ok (.iconst 1, 1) := by decide +kernel
theorem dX1_notePass_36 : decode mX1_notePass.2.1 36 = .ok (.iadd, 1) := by decide +kernel
theorem dX1_notePass_37 : decode mX1_notePass.2.1 37 = .ok (.putfield 15, 3) := by decide +kernel
theorem dX1_notePass_40 : decode mX1_notePass.2.1 40 = .ok (.return_, 1) := by decide +kernel
theorem dX1_penceAt_0 : decode mX1_penceAt.2.1 0 = .ok (.iconst (-1), 1) := by decide +kernel
theorem dX1_penceAt_1 : decode mX1_penceAt.2.1 1 = .ok (.istore 4, 2) := by decide +kernel
theorem dX1_penceAt_3 : decode mX1_penceAt.2.1 3 = .ok (.iconst 0, 1) := by decide +kernel
theorem dX1_penceAt_4 : decode mX1_penceAt.2.1 4 = .ok (.istore 5, 2) := by decide +kernel
theorem dX1_penceAt_6 : decode mX1_penceAt.2.1 6 = .ok (.iconst 0, 1) := by decide +kernel
theorem dX1_penceAt_7 : decode mX1_penceAt.2.1 7 = .ok (.istore 6, 2) := by decide +kernel
theorem dX1_penceAt_9 : decode mX1_penceAt.2.1 9 = .ok (.iload 6, 2) := by decide +kernel
theorem dX1_penceAt_11 : decode mX1_penceAt.2.1 11 = .ok (.aload_n 0, 1) := by decide +kernel
theorem dX1_penceAt_12 : decode mX1_penceAt.2.1 12 = .ok (.getfield 9, 3) := by decide +kernel
theorem dX1_penceAt_15 : decode mX1_penceAt.2.1 15 = .ok (.if_icmp .ge 84, 3) := by decide +kernel
theorem dX1_penceAt_18 : decode mX1_penceAt.2.1 18 = .ok (.aload_n 0, 1) := by decide +kernel
theorem dX1_penceAt_19 : decode mX1_penceAt.2.1 19 = .ok (.getfield 18, 3) := by decide +kernel
theorem dX1_penceAt_22 : decode mX1_penceAt.2.1 22 = .ok (.iload 6, 2) := by decide +kernel
theorem dX1_penceAt_24 : decode mX1_penceAt.2.1 24 = .ok (.iaload, 1) := by decide +kernel
theorem dX1_penceAt_25 : decode mX1_penceAt.2.1 25 = .ok (.iload_n 1, 1) := by decide +kernel
theorem dX1_penceAt_26 : decode mX1_penceAt.2.1 26 = .ok (.if_icmp .ne 29, 3) := by decide +kernel
theorem dX1_penceAt_29 : decode mX1_penceAt.2.1 29 = .ok (.aload_n 0, 1) := by decide +kernel
theorem dX1_penceAt_30 : decode mX1_penceAt.2.1 30 = .ok (.getfield 28, 3) := by decide +kernel
theorem dX1_penceAt_33 : decode mX1_penceAt.2.1 33 = .ok (.iload 6, 2) := by decide +kernel
theorem dX1_penceAt_35 : decode mX1_penceAt.2.1 35 = .ok (.iaload, 1) := by decide +kernel
theorem dX1_penceAt_36 : decode mX1_penceAt.2.1 36 = .ok (.iload_n 3, 1) := by decide +kernel
theorem dX1_penceAt_37 : decode mX1_penceAt.2.1 37 = .ok (.if_icmp .gt 18, 3) := by decide +kernel
theorem dX1_penceAt_40 : decode mX1_penceAt.2.1 40 = .ok (.aload_n 0, 1) := by decide +kernel
theorem dX1_penceAt_41 : decode mX1_penceAt.2.1 41 = .ok (.getfield 22, 3) := by decide +kernel
theorem dX1_penceAt_44 : decode mX1_penceAt.2.1 44 = .ok (.iload 6, 2) := by decide +kernel
theorem dX1_penceAt_46 : decode mX1_penceAt.2.1 46 = .ok (.iaload, 1) := by decide +kernel
theorem dX1_penceAt_47 : decode mX1_penceAt.2.1 47 = .ok (.iload_n 2, 1) := by decide +kernel
theorem dX1_penceAt_48 : decode mX1_penceAt.2.1 48 = .ok (.if_icmp .gt 7, 3) := by decide +kernel
theorem dX1_penceAt_51 : decode mX1_penceAt.2.1 51 = .ok (.iconst 1, 1) := by decide +kernel
theorem dX1_penceAt_52 : decode mX1_penceAt.2.1 52 = .ok (.goto 4, 3) := by decide +kernel
theorem dX1_penceAt_55 : decode mX1_penceAt.2.1 55 = .ok (.iconst 0, 1) := by decide +kernel
theorem dX1_penceAt_56 : decode mX1_penceAt.2.1 56 = .ok (.istore 7, 2) := by decide +kernel
theorem dX1_penceAt_58 : decode mX1_penceAt.2.1 58 = .ok (.iload 7, 2) := by decide +kernel
theorem dX1_penceAt_60 : decode mX1_penceAt.2.1 60 = .ok (.ifCond .eq 33, 3) := by decide +kernel
theorem dX1_penceAt_63 : decode mX1_penceAt.2.1 63 = .ok (.aload_n 0, 1) := by decide +kernel
theorem dX1_penceAt_64 : decode mX1_penceAt.2.1 64 = .ok (.getfield 22, 3) := by decide +kernel
theorem dX1_penceAt_67 : decode mX1_penceAt.2.1 67 = .ok (.iload 6, 2) := by decide +kernel
theorem dX1_penceAt_69 : decode mX1_penceAt.2.1 69 = .ok (.iaload, 1) := by decide +kernel
theorem dX1_penceAt_70 : decode mX1_penceAt.2.1 70 = .ok (.iload 4, 2) := by decide +kernel
theorem dX1_penceAt_72 : decode mX1_penceAt.2.1 72 = .ok (.if_icmp .lt 21, 3) := by decide +kernel
theorem dX1_penceAt_75 : decode mX1_penceAt.2.1 75 = .ok (.aload_n 0, 1) := by decide +kernel
theorem dX1_penceAt_76 : decode mX1_penceAt.2.1 76 = .ok (.getfield 22, 3) := by decide +kernel
theorem dX1_penceAt_79 : decode mX1_penceAt.2.1 79 = .ok (.iload 6, 2) := by decide +kernel
theorem dX1_penceAt_81 : decode mX1_penceAt.2.1 81 = .ok (.iaload, 1) := by decide +kernel
theorem dX1_penceAt_82 : decode mX1_penceAt.2.1 82 = .ok (.istore 4, 2) := by decide +kernel
theorem dX1_penceAt_84 : decode mX1_penceAt.2.1 84 = .ok (.aload_n 0, 1) := by decide +kernel
theorem dX1_penceAt_85 : decode mX1_penceAt.2.1 85 = .ok (.getfield 25, 3) := by decide +kernel
theorem dX1_penceAt_88 : decode mX1_penceAt.2.1 88 = .ok (.iload 6, 2) := by decide +kernel
theorem dX1_penceAt_90 : decode mX1_penceAt.2.1 90 = .ok (.iaload, 1) := by decide +kernel
theorem dX1_penceAt_91 : decode mX1_penceAt.2.1 91 = .ok (.istore 5, 2) := by decide +kernel
theorem dX1_penceAt_93 : decode mX1_penceAt.2.1 93 = .ok (.iinc 6 1, 3) := by decide +kernel
theorem dX1_penceAt_96 : decode mX1_penceAt.2.1 96 = .ok (.goto (-87), 3) := by decide +kernel
theorem dX1_penceAt_99 : decode mX1_penceAt.2.1 99 = .ok (.iload 5, 2) := by decide +kernel
theorem dX1_penceAt_101 : decode mX1_penceAt.2.1 101 = .ok (.ireturn, 1) := by decide +kernel
theorem dX1_earned_0 : decode mX1_earned.2.1 0 = .ok (.iconst 0, 1) := by decide +kernel
theorem dX1_earned_1 : decode mX1_earned.2.1 1 = .ok (.istore 4, 2) := by decide +kernel
theorem dX1_earned_3 : decode mX1_earned.2.1 3 = .ok (.iconst 0, 1) := by decide +kernel
theorem dX1_earned_4 : decode mX1_earned.2.1 4 = .ok (.istore 5, 2) := by decide +kernel
theorem dX1_earned_6 : decode mX1_earned.2.1 6 = .ok (.iload 5, 2) := by decide +kernel
theorem dX1_earned_8 : decode mX1_earned.2.1 8 = .ok (.aload_n 0, 1) := by decide +kernel
theorem dX1_earned_9 : decode mX1_earned.2.1 9 = .ok (.getfield 15, 3) := by decide +kernel
theorem dX1_earned_12 : decode mX1_earned.2.1 12 = .ok (.if_icmp .ge 48, 3) := by decide +kernel
theorem dX1_earned_15 : decode mX1_earned.2.1 15 = .ok (.aload_n 0, 1) := by decide +kernel
theorem dX1_earned_16 : decode mX1_earned.2.1 16 = .ok (.getfield 34, 3) := by decide +kernel
theorem dX1_earned_19 : decode mX1_earned.2.1 19 = .ok (.iload 5, 2) := by decide +kernel
theorem dX1_earned_21 : decode mX1_earned.2.1 21 = .ok (.iaload, 1) := by decide +kernel
theorem dX1_earned_22 : decode mX1_earned.2.1 22 = .ok (.iload_n 1, 1) := by decide +kernel
theorem dX1_earned_23 : decode mX1_earned.2.1 23 = .ok (.iload_n 2, 1) := by decide +kernel
theorem dX1_earned_24 : decode mX1_earned.2.1 24 = .ok (.invokestatic 37, 3) := by decide +kernel
theorem dX1_earned_27 : decode mX1_earned.2.1 27 = .ok (.ifCond .eq 27, 3) := by decide +kernel
theorem dX1_earned_30 : decode mX1_earned.2.1 30 = .ok (.iload 4, 2) := by decide +kernel
theorem dX1_earned_32 : decode mX1_earned.2.1 32 = .ok (.aload_n 0, 1) := by decide +kernel
theorem dX1_earned_33 : decode mX1_earned.2.1 33 = .ok (.aload_n 0, 1) := by decide +kernel
theorem dX1_earned_34 : decode mX1_earned.2.1 34 = .ok (.getfield 31, 3) := by decide +kernel
theorem dX1_earned_37 : decode mX1_earned.2.1 37 = .ok (.iload 5, 2) := by decide +kernel
theorem dX1_earned_39 : decode mX1_earned.2.1 39 = .ok (.iaload, 1) := by decide +kernel
theorem dX1_earned_40 : decode mX1_earned.2.1 40 = .ok (.aload_n 0, 1) := by decide +kernel
theorem dX1_earned_41 : decode mX1_earned.2.1 41 = .ok (.getfield 34, 3) := by decide +kernel
theorem dX1_earned_44 : decode mX1_earned.2.1 44 = .ok (.iload 5, 2) := by decide +kernel
theorem dX1_earned_46 : decode mX1_earned.2.1 46 = .ok (.iaload, 1) := by decide +kernel
theorem dX1_earned_47 : decode mX1_earned.2.1 47 = .ok (.iload_n 3, 1) := by decide +kernel
theorem dX1_earned_48 : decode mX1_earned.2.1 48 = .ok (.invokevirtual 41, 3) := by decide +kernel
theorem dX1_earned_51 : decode mX1_earned.2.1 51 = .ok (.iadd, 1) := by decide +kernel
theorem dX1_earned_52 : decode mX1_earned.2.1 52 = .ok (.istore 4, 2) := by decide +kernel
theorem dX1_earned_54 : decode mX1_earned.2.1 54 = .ok (.iinc 5 1, 3) := by decide +kernel
theorem dX1_earned_57 : decode mX1_earned.2.1 57 = .ok (.goto (-51), 3) := by decide +kernel
theorem dX1_earned_60 : decode mX1_earned.2.1 60 = .ok (.iload 4, 2) := by decide +kernel
theorem dX1_earned_62 : decode mX1_earned.2.1 62 = .ok (.ireturn, 1) := by decide +kernel

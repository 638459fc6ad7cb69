theorem dX4_init_0 : decode mX4_init.2.1 0 = .ok (.aload_n 0, 1) := by decide +kernel
theorem dX4_init_1 : decode mX4_init.2.1 1 = .ok (.invokespecial 3, 3) := by decide +kernel
theorem dX4_init_4 : decode mX4_init.2.1 4 = .ok (.aload_n 0, 1) := by decide +kernel
theorem dX4_init_5 : decode mX4_init.2.1 5 = .ok (.bipush 27, 2) := by decide +kernel
theorem dX4_init_7 : decode mX4_init.2.1 7 = .ok (.newarray .int, 2) := by decide +kernel
theorem dX4_init_9 : decode mX4_init.2.1 9 = .ok (.putfield 9, 3) := by decide +kernel
theorem dX4_init_12 : decode mX4_init.2.1 12 = .ok (.aload_n 0, 1) := by decide +kernel
theorem dX4_init_13 : decode mX4_init.2.1 13 = .ok (.bipush 27, 2) := by decide +kernel
theorem dX4_init_15 : decode mX4_init.2.1 15 = .ok (.newarray .int, 2) := by decide +kernel
theorem dX4_init_17 : decode mX4_init.2.1 17 = .ok (.putfield 15, 3) := by decide +kernel
theorem dX4_init_20 : decode mX4_init.2.1 20 = .ok (.aload_n 0, 1) := by decide +kernel
theorem dX4_init_21 : decode mX4_init.2.1 21 = .ok (.bipush 6, 2) := by decide +kernel
theorem dX4_init_23 : decode mX4_init.2.1 23 = .ok (.newarray .int, 2) := by decide +kernel
theorem dX4_init_25 : decode mX4_init.2.1 25 = .ok (.putfield 18, 3) := by decide +kernel
theorem dX4_init_28 : decode mX4_init.2.1 28 = .ok (.aload_n 0, 1) := by decide +kernel
theorem dX4_init_29 : decode mX4_init.2.1 29 = .ok (.iconst 0, 1) := by decide +kernel
theorem dX4_init_30 : decode mX4_init.2.1 30 = .ok (.putfield 21, 3) := by decide +kernel
theorem dX4_init_33 : decode mX4_init.2.1 33 = .ok (.aload_n 0, 1) := by decide +kernel
theorem dX4_init_34 : decode mX4_init.2.1 34 = .ok (.iconst 0, 1) := by decide +kernel
theorem dX4_init_35 : decode mX4_init.2.1 35 = .ok (.putfield 25, 3) := by decide +kernel
theorem dX4_init_38 : decode mX4_init.2.1 38 = .ok (.aload_n 0, 1) := by decide +kernel
theorem dX4_init_39 : decode mX4_init.2.1 39 = .ok (.bipush 100, 2) := by decide +kernel
theorem dX4_init_41 : decode mX4_init.2.1 41 = .ok (.putfield 28, 3) := by decide +kernel
theorem dX4_init_44 : decode mX4_init.2.1 44 = .ok (.aload_n 0, 1) := by decide +kernel
theorem dX4_init_45 : decode mX4_init.2.1 45 = .ok (.bipush 40, 2) := by decide +kernel
theorem dX4_init_47 : decode mX4_init.2.1 47 = .ok (.newarray .int, 2) := by decide +kernel
theorem dX4_init_49 : decode mX4_init.2.1 49 = .ok (.putfield 31, 3) := by decide +kernel
theorem dX4_init_52 : decode mX4_init.2.1 52 = .ok (.aload_n 0, 1) := by decide +kernel
theorem dX4_init_53 : decode mX4_init.2.1 53 = .ok (.bipush 27, 2) := by decide +kernel
theorem dX4_init_55 : decode mX4_init.2.1 55 = .ok (.newarray .int, 2) := by decide +kernel
theorem dX4_init_57 : decode mX4_init.2.1 57 = .ok (.putfield 34, 3) := by decide +kernel
theorem dX4_init_60 : decode mX4_init.2.1 60 = .ok (.aload_n 0, 1) := by decide +kernel
theorem dX4_init_61 : decode mX4_init.2.1 61 = .ok (.bipush 20, 2) := by decide +kernel
theorem dX4_init_63 : decode mX4_init.2.1 63 = .ok (.newarray .int, 2) := by decide +kernel
theorem dX4_init_65 : decode mX4_init.2.1 65 = .ok (.putfield 37, 3) := by decide +kernel
theorem dX4_init_68 : decode mX4_init.2.1 68 = .ok (.aload_n 0, 1) := by decide +kernel
theorem dX4_init_69 : decode mX4_init.2.1 69 = .ok (.sipush 147, 3) := by decide +kernel
theorem dX4_init_72 : decode mX4_init.2.1 72 = .ok (.newarray .int, 2) := by decide +kernel
theorem dX4_init_74 : decode mX4_init.2.1 74 = .ok (.putfield 40, 3) := by decide +kernel
theorem dX4_init_77 : decode mX4_init.2.1 77 = .ok (.aload_n 0, 1) := by decide +kernel
theorem dX4_init_78 : decode mX4_init.2.1 78 = .ok (.sipush 147, 3) := by decide +kernel
theorem dX4_init_81 : decode mX4_init.2.1 81 = .ok (.newarray .int, 2) := by decide +kernel
theorem dX4_init_83 : decode mX4_init.2.1 83 = .ok (.putfield 43, 3) := by decide +kernel
theorem dX4_init_86 : decode mX4_init.2.1 86 = .ok (.aload_n 0, 1) := by decide +kernel
theorem dX4_init_87 : decode mX4_init.2.1 87 = .ok (.iconst 0, 1) := by decide +kernel
theorem dX4_init_88 : decode mX4_init.2.1 88 = .ok (.putfield 46, 3) := by decide +kernel
theorem dX4_init_91 : decode mX4_init.2.1 91 = .ok (.aload_n 0, 1) := by decide +kernel
theorem dX4_init_92 : decode mX4_init.2.1 92 = .ok (.getfield 9, 3) := by decide +kernel
theorem dX4_init_95 : decode mX4_init.2.1 95 = .ok (.iconst 0, 1) := by decide +kernel
theorem dX4_init_96 : decode mX4_init.2.1 96 = .ok (.iconst 3, 1) := by decide +kernel
theorem dX4_init_97 : decode mX4_init.2.1 97 = .ok (.iastore, 1) := by decide +kernel
theorem dX4_init_98 : decode mX4_init.2.1 98 = .ok (.iconst 1, 1) := by decide +kernel
theorem dX4_init_99 : decode mX4_init.2.1 99 = .ok (.istore_n 1, 1) := by decide +kernel
theorem dX4_init_100 : decode mX4_init.2.1 100 = .ok (.iload_n 1, 1) := by decide +kernel
theorem dX4_init_101 : decode mX4_init.2.1 101 = .ok (.bipush 26, 2) := by decide +kernel
theorem dX4_init_103 : decode mX4_init.2.1 103 = .ok (.if_icmp .gt 16, 3) := by decide +kernel
theorem dX4_init_106 : decode mX4_init.2.1 106 = .ok (.aload_n 0, 1) := by decide +kernel
theorem dX4_init_107 : decode mX4_init.2.1 107 = .ok (.getfield 9, 3) := by decide +kernel
theorem dX4_init_110 : decode mX4_init.2.1 110 = .ok (.iload_n 1, 1) := by decide +kernel
theorem dX4_init_111 : decode mX4_init.2.1 111 = .ok (.iconst 5, 1) := by decide +kernel
theorem dX4_init_112 : decode mX4_init.2.1 112 = .ok (.iastore, 1) := by decide +kernel
theorem dX4_init_113 : decode mX4_init.2.1 113 = .ok (.iinc 1 1, 3) := by decide +kernel
theorem dX4_init_116 : decode mX4_init.2.1 116 = .ok (.goto (-16), 3) := by decide +kernel
theorem dX4_init_119 : decode mX4_init.2.1 119 = .ok (.return_, 1) := by decide +kernel
theorem dX4_addSign_0 : decode mX4_addSign.2.1 0 = .ok (.aload_n 0, 1) := by decide +kernel
theorem dX4_addSign_1 : decode mX4_addSign.2.1 1 = .ok (.getfield 21, 3) := by decide +kernel
theorem dX4_addSign_4 : decode mX4_addSign.2.1 4 = .ok (.bipush 40, 2) := by decide +kernel
theorem dX4_addSign_6 : decode mX4_addSign.2.1 6 = .ok (.if_icmp .lt 6, 3) := by decide +kernel
theorem dX4_addSign_9 : decode mX4_addSign.2.1 9 = .ok (.bipush (-6), 2) := by decide +kernel
theorem dX4_addSign_11 : decode mX4_addSign.2.1 11 = .ok (.ireturn, 1) := by decide +kernel
theorem dX4_addSign_12 : decode mX4_addSign.2.1 12 = .ok (.aload_n 0, 1) := by decide +kernel
theorem dX4_addSign_13 : decode mX4_addSign.2.1 13 = .ok (.getfield 31, 3) := by decide +kernel
theorem dX4_addSign_16 : decode mX4_addSign.2.1 16 = .ok (.aload_n 0, 1) := by decide +kernel
theorem dX4_addSign_17 : decode mX4_addSign.2.1 17 = .ok (.getfield 21, 3) := by decide +kernel
theorem dX4_addSign_20 : decode mX4_addSign.2.1 20 = .ok (.iload_n 1, 1) := by decide +kernel
theorem dX4_addSign_21 : decode mX4_addSign.2.1 21 = .ok (.iastore, 1) := by decide +kernel
theorem dX4_addSign_22 : decode mX4_addSign.2.1 22 = .ok (.aload_n 0, 1) := by decide +kernel
theorem dX4_addSign_23 : decode mX4_addSign.2.1 23 = .ok (.dup, 1) := by decide +kernel
theorem dX4_addSign_24 : decode mX4_addSign.2.1 24 = .ok (.getfield 21, 3) := by decide +kernel
theorem dX4_addSign_27 : decode mX4_addSign.2.1 27 = .ok (.iconst 1, 1) := by decide +kernel
theorem dX4_addSign_28 : decode mX4_addSign.2.1 28 = .ok (.iadd, 1) := by decide +kernel
theorem dX4_addSign_29 : decode mX4_addSign.2.1 29 = .ok (.putfield 21, 3) := by decide +kernel
theorem dX4_addSign_32 : decode mX4_addSign.2.1 32 = .ok (.aload_n 0, 1) := by decide +kernel
theorem dX4_addSign_33 : decode mX4_addSign.2.1 33 = .ok (.getfield 21, 3) := by decide +kernel
theorem dX4_addSign_36 : decode mX4_addSign.2.1 36 = .ok (.ireturn, 1) := by decide +kernel
theorem dX4_readWords_0 : decode mX4_readWords.2.1 0 = .ok (.aload_n 0, 1) := by decide +kernel
theorem dX4_readWords_1 : decode mX4_readWords.2.1 1 = .ok (.iconst 0, 1) := by decide +kernel
theorem dX4_readWords_2 : decode mX4_readWords.2.1 2 = .ok (.putfield 46, 3) := by decide +kernel
theorem dX4_readWords_5 : decode mX4_readWords.2.1 5 = .ok (.iconst 0, 1) := by decide +kernel
theorem dX4_readWords_6 : decode mX4_readWords.2.1 6 = .ok (.istore_n 1, 1) := by decide +kernel
theorem dX4_readWords_7 : decode mX4_readWords.2.1 7 = .ok (.iconst 0, 1) := by decide +kernel
theorem dX4_readWords_8 : decode mX4_readWords.2.1 8 = .ok (.istore_n 2, 1) := by decide +kernel
theorem dX4_readWords_9 : decode mX4_readWords.2.1 9 = .ok (.iload_n 2, 1) := by decide +kernel
theorem dX4_readWords_10 : decode mX4_readWords.2.1 10 = .ok (.aload_n 0, 1) := by decide +kernel
theorem dX4_readWords_11 : decode mX4_readWords.2.1 11 = .ok (.getfield 21, 3) := by decide +kernel
theorem dX4_readWords_14 : decode mX4_readWords.2.1 14 = .ok (.if_icmp .ge 94, 3) := by decide +kernel
theorem dX4_readWords_17 : decode mX4_readWords.2.1 17 = .ok (.aload_n 0, 1) := by decide +kernel
theorem dX4_readWords_18 : decode mX4_readWords.2.1 18 = .ok (.getfield 31, 3) := by decide +kernel
theorem dX4_readWords_21 : decode mX4_readWords.2.1 21 = .ok (.iload_n 2, 1) := by decide +kernel
theorem dX4_readWords_22 : decode mX4_readWords.2.1 22 = .ok (.iaload, 1) := by decide +kernel
theorem dX4_readWords_23 : decode mX4_readWords.2.1 23 = .ok (.istore_n 3, 1) := by decide +kernel
theorem dX4_readWords_24 : decode mX4_readWords.2.1 24 = .ok (.iload_n 3, 1) := by decide +kernel
theorem dX4_readWords_25 : decode mX4_readWords.2.1 25 = .ok (.ifCond .eq 36, 3) := by decide +kernel
theorem dX4_readWords_28 : decode mX4_readWords.2.1 28 = .ok (.iload_n 1, 1) := by decide +kernel
theorem dX4_readWords_29 : decode mX4_readWords.2.1 29 = .ok (.ifCond .ne 32, 3) := by decide +kernel
theorem dX4_readWords_32 : decode mX4_readWords.2.1 32 = .ok (.aload_n 0, 1) := by decide +kernel
theorem dX4_readWords_33 : decode mX4_readWords.2.1 33 = .ok (.getfield 46, 3) := by decide +kernel
theorem dX4_readWords_36 : decode mX4_readWords.2.1 36 = .ok (.bipush 20, 2) := by decide +kernel
theorem dX4_readWords_38 : decode mX4_readWords.2.1 38 = .ok (.if_icmp .ge 23, 3) := by decide +kernel
theorem dX4_readWords_41 : decode mX4_readWords.2.1 41 = .ok (.aload_n 0, 1) := by decide +kernel
theorem dX4_readWords_42 : decode mX4_readWords.2.1 42 = .ok (.getfield 37, 3) := by decide +kernel
theorem dX4_readWords_45 : decode mX4_readWords.2.1 45 = .ok (.aload_n 0, 1) := by decide +kernel
theorem dX4_readWords_46 : decode mX4_readWords.2.1 46 = .ok (.getfield 46, 3) := by decide +kernel
theorem dX4_readWords_49 : decode mX4_readWords.2.1 49 = .ok (.iconst 0, 1) := by decide +kernel
theorem dX4_readWords_50 : decode mX4_readWords.2.1 50 = .ok (.iastore, 1) := by decide +kernel
theorem dX4_readWords_51 : decode mX4_readWords.2.1 51 = .ok (.aload_n 0, 1) := by decide +kernel
theorem dX4_readWords_52 : decode mX4_readWords.2.1 52 = .ok (.dup, 1) := by decide +kernel
theorem dX4_readWords_53 : decode mX4_readWords.2.1 53 = .ok (.getfield 46, 3) := by decide +kernel
theorem dX4_readWords_56 : decode mX4_readWords.2.1 56 = .ok (.iconst 1, 1) := by decide +kernel
theorem dX4_readWords_57 : decode mX4_readWords.2.1 57 = .ok (.iadd, 1) := by decide +kernel
theorem dX4_readWords_58 : decode mX4_readWords.2.1 58 = .ok (.putfield 46, 3) := by decide +kernel
theorem dX4_readWords_61 : decode mX4_readWords.2.1 61 = .ok (.iload_n 3, 1) := by decide +kernel
theorem dX4_readWords_62 : decode mX4_readWords.2.1 62 = .ok (.ifCond .eq 7, 3) := by decide +kernel
theorem dX4_readWords_65 : decode mX4_readWords.2.1 65 = .ok (.iconst 1, 1) := by decide +kernel
theorem dX4_readWords_66 : decode mX4_readWords.2.1 66 = .ok (.goto 4, 3) := by decide +kernel
theorem dX4_readWords_69 : decode mX4_readWords.2.1 69 = .ok (.iconst 0, 1) := by decide +kernel
theorem dX4_readWords_70 : decode mX4_readWords.2.1 70 = .ok (.istore_n 1, 1) := by decide +kernel
theorem dX4_readWords_71 : decode mX4_readWords.2.1 71 = .ok (.iload_n 1, 1) := by decide +kernel
theorem dX4_readWords_72 : decode mX4_readWords.2.1 72 = .ok (.ifCond .eq 30, 3) := by decide +kernel
theorem dX4_readWords_75 : decode mX4_readWords.2.1 75 = .ok (.aload_n 0, 1) := by decide +kernel
theorem dX4_readWords_76 : decode mX4_readWords.2.1 76 = .ok (.getfield 46, 3) := by decide +kernel
theorem dX4_readWords_79 : decode mX4_readWords.2.1 79 = .ok (.ifCond .le 23, 3) := by decide +kernel
theorem dX4_readWords_82 : decode mX4_readWords.2.1 82 = .ok (.aload_n 0, 1) := by decide +kernel
theorem dX4_readWords_83 : decode mX4_readWords.2.1 83 = .ok (.getfield 37, 3) := by decide +kernel
theorem dX4_readWords_86 : decode mX4_readWords.2.1 86 = .ok (.aload_n 0, 1) := by decide +kernel
theorem dX4_readWords_87 : decode mX4_readWords.2.1 87 = .ok (.getfield 46, 3) := by decide +kernel
theorem dX4_readWords_90 : decode mX4_readWords.2.1 90 = .ok (.iconst 1, 1) := by decide +kernel
theorem dX4_readWords_91 : decode mX4_readWords.2.1 91 = .ok (.isub, 1) := by decide +kernel
theorem dX4_readWords_92 : decode mX4_readWords.2.1 92 = .ok (.dup2, 1) := by decide +kernel
theorem dX4_readWords_93 : decode mX4_readWords.2.1 93 = .ok (.iaload, 1) := by decide +kernel
theorem dX4_readWords_94 : decode mX4_readWords.2.1 94 = .ok (.aload_n 0, 1) := by decide +kernel
theorem dX4_readWords_95 : decode mX4_readWords.2.1 95 = .ok (.getfield 9, 3) := by decide +kernel
theorem dX4_readWords_98 : decode mX4_readWords.2.1 98 = .ok (.iload_n 3, 1) := by decide +kernel
theorem dX4_readWords_99 : decode mX4_readWords.2.1 99 = .ok (.iaload, 1) := by decide +kernel
theorem dX4_readWords_100 : decode mX4_readWords.2.1 100 = .ok (.iadd, 1) := by decide +kernel
theorem dX4_readWords_101 : decode mX4_readWords.2.1 101 = .ok (.iastore, 1) := by decide +kernel
theorem dX4_readWords_102 : decode mX4_readWords.2.1 102 = .ok (.iinc 2 1, 3) := by decide +kernel
theorem dX4_readWords_105 : decode mX4_readWords.2.1 105 = .ok (.goto (-96), 3) := by decide +kernel
theorem dX4_readWords_108 : decode mX4_readWords.2.1 108 = .ok (.aload_n 0, 1) := by decide +kernel
theorem dX4_readWords_109 : decode mX4_readWords.2.1 109 = .ok (.getfield 46, 3) := by decide +kernel
theorem dX4_readWords_112 : decode mX4_readWords.2.1 112 = .ok (.ireturn, 1) := by decide +kernel
theorem dX4_breakUp_0 : decode mX4_breakUp.2.1 0 = .ok (.aload_n 0, 1) := by decide +kernel
theorem dX4_breakUp_1 : decode mX4_breakUp.2.1 1 = .ok (.invokevirtual 49, 3) := by decide +kernel
theorem dX4_breakUp_4 : decode mX4_breakUp.2.1 4 = .ok (.ifCond .ne 6, 3) := by decide +kernel
theorem dX4_breakUp_7 : decode mX4_breakUp.2.1 7 = .ok (.bipush (-4), 2) := by decide +kernel
theorem dX4_breakUp_9 : decode mX4_breakUp.2.1 9 = .ok (.ireturn, 1) := by decide +kernel
theorem dX4_breakUp_10 : decode mX4_breakUp.2.1 10 = .ok (.iconst 0, 1) := by decide +kernel
theorem dX4_breakUp_11 : decode mX4_breakUp.2.1 11 = .ok (.istore_n 3, 1) := by decide +kernel
theorem dX4_breakUp_12 : decode mX4_breakUp.2.1 12 = .ok (.iload_n 3, 1) := by decide +kernel
theorem dX4_breakUp_13 : decode mX4_breakUp.2.1 13 = .ok (.aload_n 0, 1) := by decide +kernel
theorem dX4_breakUp_14 : decode mX4_breakUp.2.1 14 = .ok (.getfield 46, 3) := by decide +kernel
theorem dX4_breakUp_17 : decode mX4_breakUp.2.1 17 = .ok (.if_icmp .gt 29, 3) := by decide +kernel
theorem dX4_breakUp_20 : decode mX4_breakUp.2.1 20 = .ok (.aload_n 0, 1) := by decide +kernel
theorem dX4_breakUp_21 : decode mX4_breakUp.2.1 21 = .ok (.getfield 40, 3) := by decide +kernel
theorem dX4_breakUp_24 : decode mX4_breakUp.2.1 24 = .ok (.iload_n 3, 1) := by decide +kernel
theorem dX4_breakUp_25 : decode mX4_breakUp.2.1 25 = .ok (.iload_n 3, 1) := by decide +kernel
theorem dX4_breakUp_26 : decode mX4_breakUp.2.1 26 = .ok (.aload_n 0, 1) := by decide +kernel
theorem dX4_breakUp_27 : decode mX4_breakUp.2.1 27 = .ok (.getfield 46, 3) := by decide +kernel
theorem dX4_breakUp_30 : decode mX4_breakUp.2.1 30 = .ok (.if_icmp .ne 7, 3) := by decide +kernel
theorem dX4_breakUp_33 : decode mX4_breakUp.2.1 33 = .ok (.iconst 0, 1) := by decide +kernel
theorem dX4_breakUp_34 : decode mX4_breakUp.2.1 34 = .ok (.goto 5, 3) := by decide +kernel
theorem dX4_breakUp_37 : decode mX4_breakUp.2.1 37 = .ok (.ldc 53, 2) := by decide +kernel
theorem dX4_breakUp_39 : decode mX4_breakUp.2.1 39 = .ok (.iastore, 1) := by decide +kernel
theorem dX4_breakUp_40 : decode mX4_breakUp.2.1 40 = .ok (.iinc 3 1, 3) := by decide +kernel
theorem dX4_breakUp_43 : decode mX4_breakUp.2.1 43 = .ok (.goto (-31), 3) := by decide +kernel
theorem dX4_breakUp_46 : decode mX4_breakUp.2.1 46 = .ok (.iconst 0, 1) := by decide +kernel
theorem dX4_breakUp_47 : decode mX4_breakUp.2.1 47 = .ok (.istore_n 3, 1) := by decide +kernel
theorem dX4_breakUp_48 : decode mX4_breakUp.2.1 48 = .ok (.iconst 1, 1) := by decide +kernel
theorem dX4_breakUp_49 : decode mX4_breakUp.2.1 49 = .ok (.istore 4, 2) := by decide +kernel
theorem dX4_breakUp_51 : decode mX4_breakUp.2.1 51 = .ok (.iload 4, 2) := by decide +kernel
theorem dX4_breakUp_53 : decode mX4_breakUp.2.1 53 = .ok (.iload_n 2, 1) := by decide +kernel
theorem dX4_breakUp_54 : decode mX4_breakUp.2.1 54 = .ok (.if_icmp .gt 61, 3) := by decide +kernel
theorem dX4_breakUp_57 : decode mX4_breakUp.2.1 57 = .ok (.iconst 0, 1) := by decide +kernel
theorem dX4_breakUp_58 : decode mX4_breakUp.2.1 58 = .ok (.istore 5, 2) := by decide +kernel
theorem dX4_breakUp_60 : decode mX4_breakUp.2.1 60 = .ok (.iload 5, 2) := by decide +kernel
theorem dX4_breakUp_62 : decode mX4_breakUp.2.1 62 = .ok (.aload_n 0, 1) := by decide +kernel
theorem dX4_breakUp_63 : decode mX4_breakUp.2.1 63 = .ok (.getfield 46, 3) := by decide +kernel
theorem dX4_breakUp_66 : decode mX4_breakUp.2.1 66 = .ok (.if_icmp .gt 18, 3) := by decide +kernel
theorem dX4_breakUp_69 : decode mX4_breakUp.2.1 69 = .ok (.aload_n 0, 1) := by decide +kernel
theorem dX4_breakUp_70 : decode mX4_breakUp.2.1 70 = .ok (.iload 4, 2) := by decide +kernel
theorem dX4_breakUp_72 : decode mX4_breakUp.2.1 72 = .ok (.iload 5, 2) := by decide +kernel
theorem dX4_breakUp_74 : decode mX4_breakUp.2.1 74 = .ok (.iload_n 1, 1) := by decide +kernel
theorem dX4_breakUp_75 : decode mX4_breakUp.2.1 75 = .ok (.invokevirtual 54, 3) := by decide +kernel
theorem dX4_breakUp_78 : decode mX4_breakUp.2.1 78 = .ok (.iinc 5 1, 3) := by decide +kernel
theorem dX4_breakUp_81 : decode mX4_breakUp.2.1 81 = .ok (.goto (-21), 3) := by decide +kernel
theorem dX4_breakUp_84 : decode mX4_breakUp.2.1 84 = .ok (.aload_n 0, 1) := by decide +kernel
theorem dX4_breakUp_85 : decode mX4_breakUp.2.1 85 = .ok (.getfield 40, 3) := by decide +kernel
theorem dX4_breakUp_88 : decode mX4_breakUp.2.1 88 = .ok (.iload 4, 2) := by decide +kernel
theorem dX4_breakUp_90 : decode mX4_breakUp.2.1 90 = .ok (.bipush 21, 2) := by decide +kernel
theorem dX4_breakUp_92 : decode mX4_breakUp.2.1 92 = .ok (.imul, 1) := by decide +kernel
theorem dX4_breakUp_93 : decode mX4_breakUp.2.1 93 = .ok (.iaload, 1) := by decide +kernel
theorem dX4_breakUp_94 : decode mX4_breakUp.2.1 94 = .ok (.aload_n 0, 1) := by decide +kernel
theorem dX4_breakUp_95 : decode mX4_breakUp.2.1 95 = .ok (.getfield 40, 3) := by decide +kernel
theorem dX4_breakUp_98 : decode mX4_breakUp.2.1 98 = .ok (.iload_n 3, 1) := by decide +kernel
theorem dX4_breakUp_99 : decode mX4_breakUp.2.1 99 = .ok (.bipush 21, 2) := by decide +kernel
theorem dX4_breakUp_101 : decode mX4_breakUp.2.1 101 = .ok (.imul, 1) := by decide +kernel
theorem dX4_breakUp_102 : decode mX4_breakUp.2.1 102 = .ok (.iaload, 1) := by decide +kernel
theorem dX4_breakUp_103 : decode mX4_breakUp.2.1 103 = .ok (.if_icmp .ge 6, 3) := by decide +kernel
theorem dX4_breakUp_106 : decode mX4_breakUp.2.1 106 = .ok (.iload 4, 2) := by decide +kernel
theorem dX4_breakUp_108 : decode mX4_breakUp.2.1 108 = .ok (.istore_n 3, 1) := by decide +kernel
theorem dX4_breakUp_109 : decode mX4_breakUp.2.1 109 = .ok (.iinc 4 1, 3) := by decide +kernel
theorem dX4_breakUp_112 : decode mX4_breakUp.2.1 112 = .ok (.goto (-61), 3) := by decide +kernel
theorem dX4_breakUp_115 : decode mX4_breakUp.2.1 115 = .ok (.aload_n 0, 1) := by decide +kernel
theorem dX4_breakUp_116 : decode mX4_breakUp.2.1 116 = .ok (.iload_n 3, 1) := by decide +kernel
theorem dX4_breakUp_117 : decode mX4_breakUp.2.1 117 = .ok (.invokevirtual 58, 3) := by decide +kernel
theorem dX4_breakUp_120 : decode mX4_breakUp.2.1 120 = .ok (.iload_n 3, 1) := by decide +kernel
theorem dX4_breakUp_121 : decode mX4_breakUp.2.1 121 = .ok (.ifCond .ne 7, 3) := by decide +kernel
theorem dX4_breakUp_124 : decode mX4_breakUp.2.1 124 = .ok (.iconst (-1), 1) := by decide +kernel
theorem dX4_breakUp_125 : decode mX4_breakUp.2.1 125 = .ok (.goto 12, 3) := by decide +kernel
theorem dX4_breakUp_128 : decode mX4_breakUp.2.1 128 = .ok (.aload_n 0, 1) := by decide +kernel
theorem dX4_breakUp_129 : decode mX4_breakUp.2.1 129 = .ok (.getfield 40, 3) := by decide +kernel
theorem dX4_breakUp_132 : decode mX4_breakUp.2.1 132 = .ok (.iload_n 3, 1) := by decide +kernel
theorem dX4_breakUp_133 : decode mX4_breakUp.2.1 133 = .ok (.bipush 21, 2) := by decide +kernel
theorem dX4_breakUp_135 : decode mX4_breakUp.2.1 135 = .ok (.imul, 1) := by decide +kernel
theorem dX4_breakUp_136 : decode mX4_breakUp.2.1 136 = .ok (.iaload, 1) := by decide +kernel
theorem dX4_breakUp_137 : decode mX4_breakUp.2.1 137 = .ok (.ireturn, 1) := by decide +kernel
theorem dX4_weigh_0 : decode mX4_weigh.2.1 0 = .ok (.ldc 53, 2) := by decide +kernel
theorem dX4_weigh_2 : decode mX4_weigh.2.1 2 = .ok (.istore 4, 2) := by decide +kernel
theorem dX4_weigh_4 : decode mX4_weigh.2.1 4 = .ok (.iconst 0, 1) := by decide +kernel
theorem dX4_weigh_5 : decode mX4_weigh.2.1 5 = .ok (.istore 5, 2) := by decide +kernel
theorem dX4_weigh_7 : decode mX4_weigh.2.1 7 = .ok (.aload_n 0, 1) := by decide +kernel
theorem dX4_weigh_8 : decode mX4_weigh.2.1 8 = .ok (.getfield 9, 3) := by decide +kernel
theorem dX4_weigh_11 : decode mX4_weigh.2.1 11 = .ok (.iconst 0, 1) := by decide +kernel
theorem dX4_weigh_12 : decode mX4_weigh.2.1 12 = .ok (.iaload, 1) := by decide +kernel
theorem dX4_weigh_13 : decode mX4_weigh.2.1 13 = .ok (.ineg, 1) := by decide +kernel
theorem dX4_weigh_14 : decode mX4_weigh.2.1 14 = .ok (.istore 6, 2) := by decide +kernel
theorem dX4_weigh_16 : decode mX4_weigh.2.1 16 = .ok (.iload_n 2, 1) := by decide +kernel
theorem dX4_weigh_17 : decode mX4_weigh.2.1 17 = .ok (.istore 7, 2) := by decide +kernel
theorem dX4_weigh_19 : decode mX4_weigh.2.1 19 = .ok (.iload 7, 2) := by decide +kernel
theorem dX4_weigh_21 : decode mX4_weigh.2.1 21 = .ok (.aload_n 0, 1) := by decide +kernel
theorem dX4_weigh_22 : decode mX4_weigh.2.1 22 = .ok (.getfield 46, 3) := by decide +kernel
theorem dX4_weigh_25 : decode mX4_weigh.2.1 25 = .ok (.if_icmp .ge 98, 3) := by decide +kernel
theorem dX4_weigh_28 : decode mX4_weigh.2.1 28 = .ok (.iload 6, 2) := by decide +kernel
theorem dX4_weigh_30 : decode mX4_weigh.2.1 30 = .ok (.aload_n 0, 1) := by decide +kernel
theorem dX4_weigh_31 : decode mX4_weigh.2.1 31 = .ok (.getfield 9, 3) := by decide +kernel
theorem dX4_weigh_34 : decode mX4_weigh.2.1 34 = .ok (.iconst 0, 1) := by decide +kernel
theorem dX4_weigh_35 : decode mX4_weigh.2.1 35 = .ok (.iaload, 1) := by decide +kernel
theorem dX4_weigh_36 : decode mX4_weigh.2.1 36 = .ok (.aload_n 0, 1) := by decide +kernel
theorem dX4_weigh_37 : decode mX4_weigh.2.1 37 = .ok (.getfield 37, 3) := by decide +kernel
theorem dX4_weigh_40 : decode mX4_weigh.2.1 40 = .ok (.iload 7, 2) := by decide +kernel
theorem dX4_weigh_42 : decode mX4_weigh.2.1 42 = .ok (.iaload, 1) := by decide +kernel
theorem dX4_weigh_43 : decode mX4_weigh.2.1 43 = .ok (.iadd, 1) := by decide +kernel
theorem dX4_weigh_44 : decode mX4_weigh.2.1 44 = .ok (.iadd, 1) := by decide +kernel
theorem dX4_weigh_45 : decode mX4_weigh.2.1 45 = .ok (.istore 6, 2) := by decide +kernel
theorem dX4_weigh_47 : decode mX4_weigh.2.1 47 = .ok (.iload 6, 2) := by decide +kernel
theorem dX4_weigh_49 : decode mX4_weigh.2.1 49 = .ok (.iload_n 3, 1) := by decide +kernel
theorem dX4_weigh_50 : decode mX4_weigh.2.1 50 = .ok (.if_icmp .le 6, 3) := by decide +kernel
theorem dX4_weigh_53 : decode mX4_weigh.2.1 53 = .ok (.goto 70, 3) := by decide +kernel
theorem dX4_weigh_56 : decode mX4_weigh.2.1 56 = .ok (.aload_n 0, 1) := by decide +kernel
theorem dX4_weigh_57 : decode mX4_weigh.2.1 57 = .ok (.getfield 40, 3) := by decide +kernel
theorem dX4_weigh_60 : decode mX4_weigh.2.1 60 = .ok (.iload_n 1, 1) := by decide +kernel
theorem dX4_weigh_61 : decode mX4_weigh.2.1 61 = .ok (.iconst 1, 1) := by decide +kernel
theorem dX4_weigh_62 : decode mX4_weigh.2.1 62 = .ok (.isub, 1) := by decide +kernel
theorem dX4_weigh_63 : decode mX4_weigh.2.1 63 = .ok (.bipush 21, 2) := by decide +kernel
theorem dX4_weigh_65 : decode mX4_weigh.2.1 65 = .ok (.imul, 1) := by decide +kernel
theorem dX4_weigh_66 : decode mX4_weigh.2.1 66 = .ok (.iload 7, 2) := by decide +kernel
theorem dX4_weigh_68 : decode mX4_weigh.2.1 68 = .ok (.iadd, 1) := by decide +kernel
theorem dX4_weigh_69 : decode mX4_weigh.2.1 69 = .ok (.iconst 1, 1) := by decide +kernel
theorem dX4_weigh_70 : decode mX4_weigh.2.1 70 = .ok (.iadd, 1) := by decide +kernel
theorem dX4_weigh_71 : decode mX4_weigh.2.1 71 = .ok (.iaload, 1) := by decide +kernel
theorem dX4_weigh_72 : decode mX4_weigh.2.1 72 = .ok (.istore 8, 2) := by decide +kernel
theorem dX4_weigh_74 : decode mX4_weigh.2.1 74 = .ok (.iload_n 3, 1) := by decide +kernel
theorem dX4_weigh_75 : decode mX4_weigh.2.1 75 = .ok (.iload 6, 2) := by decide +kernel
theorem dX4_weigh_77 : decode mX4_weigh.2.1 77 = .ok (.isub, 1) := by decide +kernel
theorem dX4_weigh_78 : decode mX4_weigh.2.1 78 = .ok (.iload_n 3, 1) := by decide +kernel
theorem dX4_weigh_79 : decode mX4_weigh.2.1 79 = .ok (.iload 6, 2) := by decide +kernel
theorem dX4_weigh_81 : decode mX4_weigh.2.1 81 = .ok (.isub, 1) := by decide +kernel
theorem dX4_weigh_82 : decode mX4_weigh.2.1 82 = .ok (.imul, 1) := by decide +kernel
theorem dX4_weigh_83 : decode mX4_weigh.2.1 83 = .ok (.istore 9, 2) := by decide +kernel
theorem dX4_weigh_85 : decode mX4_weigh.2.1 85 = .ok (.iload 8, 2) := by decide +kernel
theorem dX4_weigh_87 : decode mX4_weigh.2.1 87 = .ok (.ldc 53, 2) := by decide +kernel
theorem dX4_weigh_89 : decode mX4_weigh.2.1 89 = .ok (.if_icmp .eq 28, 3) := by decide +kernel
theorem dX4_weigh_92 : decode mX4_weigh.2.1 92 = .ok (.iload 8, 2) := by decide +kernel
theorem dX4_weigh_94 : decode mX4_weigh.2.1 94 = .ok (.iload 9, 2) := by decide +kernel
theorem dX4_weigh_96 : decode mX4_weigh.2.1 96 = .ok (.iadd, 1) := by decide +kernel
theorem dX4_weigh_97 : decode mX4_weigh.2.1 97 = .ok (.iload 4, 2) := by decide +kernel
theorem dX4_weigh_99 : decode mX4_weigh.2.1 99 = .ok (.if_icmp .ge 18, 3) := by decide +kernel
theorem dX4_weigh_102 : decode mX4_weigh.2.1 102 = .ok (.iload 8, 2) := by decide +kernel
theorem dX4_weigh_104 : decode mX4_weigh.2.1 104 = .ok (.iload 9, 2) := by decide +kernel
theorem dX4_weigh_106 : decode mX4_weigh.2.1 106 = .ok (.iadd, 1) := by decide +kernel
theorem dX4_weigh_107 : decode mX4_weigh.2.1 107 = .ok (.istore 4, 2) := by decide +kernel
theorem dX4_weigh_109 : decode mX4_weigh.2.1 109 = .ok (.iload 7, 2) := by decide +kernel
theorem dX4_weigh_111 : decode mX4_weigh.2.1 111 = .ok (.iload_n 2, 1) := by decide +kernel
theorem dX4_weigh_112 : decode mX4_weigh.2.1 112 = .ok (.isub, 1) := by decide +kernel
theorem dX4_weigh_113 : decode mX4_weigh.2.1 113 = .ok (.iconst 1, 1) := by decide +kernel
theorem dX4_weigh_114 : decode mX4_weigh.2.1 114 = .ok (.iadd, 1) := by decide +kernel
theorem dX4_weigh_115 : decode mX4_weigh.2.1 115 = .ok (.istore 5, 2) := by decide +kernel
theorem dX4_weigh_117 : decode mX4_weigh.2.1 117 = .ok (.iinc 7 1, 3) := by decide +kernel
theorem dX4_weigh_120 : decode mX4_weigh.2.1 120 = .ok (.goto (-101), 3) := by decide +kernel
theorem dX4_weigh_123 : decode mX4_weigh.2.1 123 = .ok (.aload_n 0, 1) := by decide +kernel
theorem dX4_weigh_124 : decode mX4_weigh.2.1 124 = .ok (.getfield 40, 3) := by decide +kernel
theorem dX4_weigh_127 : decode mX4_weigh.2.1 127 = .ok (.iload_n 1, 1) := by decide +kernel
theorem dX4_weigh_128 : decode mX4_weigh.2.1 128 = .ok (.bipush 21, 2) := by decide +kernel
theorem dX4_weigh_130 : decode mX4_weigh.2.1 130 = .ok (.imul, 1) := by decide +kernel
theorem dX4_weigh_131 : decode mX4_weigh.2.1 131 = .ok (.iload_n 2, 1) := by decide +kernel
theorem dX4_weigh_132 : decode mX4_weigh.2.1 132 = .ok (.iadd, 1) := by decide +kernel
theorem dX4_weigh_133 : decode mX4_weigh.2.1 133 = .ok (.iload 4, 2) := by decide +kernel
theorem dX4_weigh_135 : decode mX4_weigh.2.1 135 = .ok (.iastore, 1) := by decide +kernel
theorem dX4_weigh_136 : decode mX4_weigh.2.1 136 = .ok (.aload_n 0, 1) := by decide +kernel
theorem dX4_weigh_137 : decode mX4_weigh.2.1 137 = .ok (.getfield 43, 3) := by decide +kernel
theorem dX4_weigh_140 : decode mX4_weigh.2.1 140 = .ok (.iload_n 1, 1) := by decide +kernel
theorem dX4_weigh_141 : decode mX4_weigh.2.1 141 = .ok (.bipush 21, 2) := by decide +kernel
theorem dX4_weigh_143 : decode mX4_weigh.2.1 143 = .ok (.imul, 1) := by decide +kernel
theorem dX4_weigh_144 : decode mX4_weigh.2.1 144 = .ok (.iload_n 2, 1) := by decide +kernel
theorem dX4_weigh_145 : decode mX4_weigh.2.1 145 = .ok (.iadd, 1) := by decide +kernel
theorem dX4_weigh_146 : decode mX4_weigh.2.1 146 = .ok (.iload 5, 2) := by decide +kernel
theorem dX4_weigh_148 : decode mX4_weigh.2.1 148 = .ok (.iastore, 1) := by decide +kernel
theorem dX4_weigh_149 : decode mX4_weigh.2.1 149 = .ok (.return_, 1) := by decide +kernel
theorem dX4_layOut_0 : decode mX4_layOut.2.1 0 = .ok (.aload_n 0, 1) := by decide +kernel
theorem dX4_layOut_1 : decode mX4_layOut.2.1 1 = .ok (.iload_n 1, 1) := by decide +kernel
theorem dX4_layOut_2 : decode mX4_layOut.2.1 2 = .ok (.putfield 25, 3) := by decide +kernel
theorem dX4_layOut_5 : decode mX4_layOut.2.1 5 = .ok (.iconst 0, 1) := by decide +kernel
theorem dX4_layOut_6 : decode mX4_layOut.2.1 6 = .ok (.istore_n 2, 1) := by decide +kernel
theorem dX4_layOut_7 : decode mX4_layOut.2.1 7 = .ok (.iconst 0, 1) := by decide +kernel
theorem dX4_layOut_8 : decode mX4_layOut.2.1 8 = .ok (.istore_n 3, 1) := by decide +kernel
theorem dX4_layOut_9 : decode mX4_layOut.2.1 9 = .ok (.iload_n 3, 1) := by decide +kernel
theorem dX4_layOut_10 : decode mX4_layOut.2.1 10 = .ok (.aload_n 0, 1) := by decide +kernel
theorem dX4_layOut_11 : decode mX4_layOut.2.1 11 = .ok (.getfield 25, 3) := by decide +kernel
theorem dX4_layOut_14 : decode mX4_layOut.2.1 14 = .ok (.if_icmp .ge 40, 3) := by decide +kernel
theorem dX4_layOut_17 : decode mX4_layOut.2.1 17 = .ok (.aload_n 0, 1) := by decide +kernel
theorem dX4_layOut_18 : decode mX4_layOut.2.1 18 = .ok (.getfield 18, 3) := by decide +kernel
theorem dX4_layOut_21 : decode mX4_layOut.2.1 21 = .ok (.iload_n 3, 1) := by decide +kernel
theorem dX4_layOut_22 : decode mX4_layOut.2.1 22 = .ok (.aload_n 0, 1) := by decide +kernel
theorem dX4_layOut_23 : decode mX4_layOut.2.1 23 = .ok (.getfield 43, 3) := by decide +kernel
theorem dX4_layOut_26 : decode mX4_layOut.2.1 26 = .ok (.aload_n 0, 1) := by decide +kernel
theorem dX4_layOut_27 : decode mX4_layOut.2.1 27 = .ok (.getfield 25, 3) := by decide +kernel
theorem dX4_layOut_30 : decode mX4_layOut.2.1 30 = .ok (.iload_n 3, 1) := by decide +kernel
theorem dX4_layOut_31 : decode mX4_layOut.2.1 31 = .ok (.isub, 1) := by decide +kernel
theorem dX4_layOut_32 : decode mX4_layOut.2.1 32 = .ok (.bipush 21, 2) := by decide +kernel
theorem dX4_layOut_34 : decode mX4_layOut.2.1 34 = .ok (.imul, 1) := by decide +kernel
theorem dX4_layOut_35 : decode mX4_layOut.2.1 35 = .ok (.iload_n 2, 1) := by decide +kernel
theorem dX4_layOut_36 : decode mX4_layOut.2.1 36 = .ok (.iadd, 1) := by decide +kernel
theorem dX4_layOut_37 : decode mX4_layOut.2.1 37 = .ok (.iaload, 1) := by decide +kernel
theorem dX4_layOut_38 : decode mX4_layOut.2.1 38 = .ok (.iastore, 1) := by decide +kernel
theorem dX4_layOut_39 : decode mX4_layOut.2.1 39 = .ok (.iload_n 2, 1) := by decide +kernel
theorem dX4_layOut_40 : decode mX4_layOut.2.1 40 = .ok (.aload_n 0, 1) := by decide +kernel
theorem dX4_layOut_41 : decode mX4_layOut.2.1 41 = .ok (.getfield 18, 3) := by decide +kernel
theorem dX4_layOut_44 : decode mX4_layOut.2.1 44 = .ok (.iload_n 3, 1) := by decide +kernel
theorem dX4_layOut_45 : decode mX4_layOut.2.1 45 = .ok (.iaload, 1) := by decide +kernel
theorem dX4_layOut_46 : decode mX4_layOut.2.1 46 = .ok (.iadd, 1) := by decide +kernel
theorem dX4_layOut_47 : decode mX4_layOut.2.1 47 = .ok (.istore_n 2, 1) := by decide +kernel
theorem dX4_layOut_48 : decode mX4_layOut.2.1 48 = .ok (.iinc 3 1, 3) := by decide +kernel
theorem dX4_layOut_51 : decode mX4_layOut.2.1 51 = .ok (.goto (-42), 3) := by decide +kernel
theorem dX4_layOut_54 : decode mX4_layOut.2.1 54 = .ok (.return_, 1) := by decide +kernel
theorem dX4_countLetters_0 : decode mX4_countLetters.2.1 0 = .ok (.iconst 0, 1) := by decide +kernel
theorem dX4_countLetters_1 : decode mX4_countLetters.2.1 1 = .ok (.istore_n 1, 1) := by decide +kernel
theorem dX4_countLetters_2 : decode mX4_countLetters.2.1 2 = .ok (.iconst 1, 1) := by decide +kernel
theorem dX4_countLetters_3 : decode mX4_countLetters.2.1 3 = .ok (.istore_n 2, 1) := by decide +kernel
theorem dX4_countLetters_4 : decode mX4_countLetters.2.1 4 = .ok (.iload_n 2, 1) := by decide +kernel
theorem dX4_countLetters_5 : decode mX4_countLetters.2.1 5 = .ok (.bipush 26, 2) := by decide +kernel
theorem dX4_countLetters_7 : decode mX4_countLetters.2.1 7 = .ok (.if_icmp .gt 16, 3) := by decide +kernel
theorem dX4_countLetters_10 : decode mX4_countLetters.2.1 10 = .ok (.aload_n 0, 1) := by decide +kernel
theorem dX4_countLetters_11 : decode mX4_countLetters.2.1 11 = .ok (.getfield 34, 3) := by decide +kernel
theorem dX4_countLetters_14 : decode mX4_countLetters.2.1 14 = .ok (.iload_n 2, 1) := by decide +kernel
theorem dX4_countLetters_15 : decode mX4_countLetters.2.1 15 = .ok (.iconst 0, 1) := by decide +kernel
theorem dX4_countLetters_16 : decode mX4_countLetters.2.1 16 = .ok (.iastore, 1) := by decide +kernel
theorem dX4_countLetters_17 : decode mX4_countLetters.2.1 17 = .ok (.iinc 2 1, 3) := by decide +kernel
theorem dX4_countLetters_20 : decode mX4_countLetters.2.1 20 = .ok (.goto (-16), 3) := by decide +kernel
theorem dX4_countLetters_23 : decode mX4_countLetters.2.1 23 = .ok (.iconst 0, 1) := by decide +kernel
theorem dX4_countLetters_24 : decode mX4_countLetters.2.1 24 = .ok (.istore_n 2, 1) := by decide +kernel
theorem dX4_countLetters_25 : decode mX4_countLetters.2.1 25 = .ok (.iload_n 2, 1) := by decide +kernel
theorem dX4_countLetters_26 : decode mX4_countLetters.2.1 26 = .ok (.aload_n 0, 1) := by decide +kernel
theorem dX4_countLetters_27 : decode mX4_countLetters.2.1 27 = .ok (.getfield 21, 3) := by decide +kernel
theorem dX4_countLetters_30 : decode mX4_countLetters.2.1 30 = .ok (.if_icmp .ge 36, 3) := by decide +kernel
theorem dX4_countLetters_33 : decode mX4_countLetters.2.1 33 = .ok (.aload_n 0, 1) := by decide +kernel
theorem dX4_countLetters_34 : decode mX4_countLetters.2.1 34 = .ok (.getfield 31, 3) := by decide +kernel
theorem dX4_countLetters_37 : decode mX4_countLetters.2.1 37 = .ok (.iload_n 2, 1) := by decide +kernel
theorem dX4_countLetters_38 : decode mX4_countLetters.2.1 38 = .ok (.iaload, 1) := by decide +kernel
theorem dX4_countLetters_39 : decode mX4_countLetters.2.1 39 = .ok (.ifCond .eq 21, 3) := by decide +kernel
theorem dX4_countLetters_42 : decode mX4_countLetters.2.1 42 = .ok (.aload_n 0, 1) := by decide +kernel
theorem dX4_countLetters_43 : decode mX4_countLetters.2.1 43 = .ok (.getfield 34, 3) := by decide +kernel
theorem dX4_countLetters_46 : decode mX4_countLetters.2.1 46 = .ok (.aload_n 0, 1) := by decide +kernel
theorem dX4_countLetters_47 : decode mX4_countLetters.2.1 47 = .ok (.getfield 31, 3) := by decide +kernel
theorem dX4_countLetters_50 : decode mX4_countLetters.2.1 50 = .ok (.iload_n 2, 1) := by decide +kernel
theorem dX4_countLetters_51 : decode mX4_countLetters.2.1 51 = .ok (.iaload, 1) := by decide +kernel
theorem dX4_countLetters_52 : decode mX4_countLetters.2.1 52 = .ok (.dup2, 1) := by decide +kernel
theorem dX4_countLetters_53 : decode mX4_countLetters.2.1 53 = .ok (.iaload, 1) := by decide +kernel
theorem dX4_countLetters_54 : decode mX4_countLetters.2.1 54 = .ok (.iconst 1, 1) := by decide +kernel
theorem dX4_countLetters_55 : decode mX4_countLetters.2.1 55 = .ok (.iadd, 1) := by decide +kernel
theorem dX4_countLetters_56 : decode mX4_countLetters.2.1 56 = .ok (.iastore, 1) := by decide +kernel
theorem dX4_countLetters_57 : decode mX4_countLetters.2.1 57 = .ok (.iinc 1 1, 3) := by decide +kernel
theorem dX4_countLetters_60 : decode mX4_countLetters.2.1 60 = .ok (.iinc 2 1, 3) := by decide +kernel
theorem dX4_countLetters_63 : decode mX4_countLetters.2.1 63 = .ok (.goto (-38), 3) := by decide +kernel
theorem dX4_countLetters_66 : decode mX4_countLetters.2.1 66 = .ok (.iload_n 1, 1) := by decide +kernel
theorem dX4_countLetters_67 : decode mX4_countLetters.2.1 67 = .ok (.ireturn, 1) := by decide +kernel
theorem dX4_wouldBlunt_0 : decode mX4_wouldBlunt.2.1 0 = .ok (.iconst 1, 1) := by decide +kernel
theorem dX4_wouldBlunt_1 : decode mX4_wouldBlunt.2.1 1 = .ok (.istore_n 1, 1) := by decide +kernel
theorem dX4_wouldBlunt_2 : decode mX4_wouldBlunt.2.1 2 = .ok (.iload_n 1, 1) := by decide +kernel
theorem dX4_wouldBlunt_3 : decode mX4_wouldBlunt.2.1 3 = .ok (.bipush 26, 2) := by decide +kernel
theorem dX4_wouldBlunt_5 : decode mX4_wouldBlunt.2.1 5 = .ok (.if_icmp .gt 40, 3) := by decide +kernel
theorem dX4_wouldBlunt_8 : decode mX4_wouldBlunt.2.1 8 = .ok (.aload_n 0, 1) := by decide +kernel
theorem dX4_wouldBlunt_9 : decode mX4_wouldBlunt.2.1 9 = .ok (.getfield 34, 3) := by decide +kernel
theorem dX4_wouldBlunt_12 : decode mX4_wouldBlunt.2.1 12 = .ok (.iload_n 1, 1) := by decide +kernel
theorem dX4_wouldBlunt_13 : decode mX4_wouldBlunt.2.1 13 = .ok (.iaload, 1) := by decide +kernel
theorem dX4_wouldBlunt_14 : decode mX4_wouldBlunt.2.1 14 = .ok (.ifCond .le 25, 3) := by decide +kernel
theorem dX4_wouldBlunt_17 : decode mX4_wouldBlunt.2.1 17 = .ok (.aload_n 0, 1) := by decide +kernel
theorem dX4_wouldBlunt_18 : decode mX4_wouldBlunt.2.1 18 = .ok (.getfield 15, 3) := by decide +kernel
theorem dX4_wouldBlunt_21 : decode mX4_wouldBlunt.2.1 21 = .ok (.iload_n 1, 1) := by decide +kernel
theorem dX4_wouldBlunt_22 : decode mX4_wouldBlunt.2.1 22 = .ok (.iaload, 1) := by decide +kernel
theorem dX4_wouldBlunt_23 : decode mX4_wouldBlunt.2.1 23 = .ok (.aload_n 0, 1) := by decide +kernel
theorem dX4_wouldBlunt_24 : decode mX4_wouldBlunt.2.1 24 = .ok (.getfield 34, 3) := by decide +kernel
theorem dX4_wouldBlunt_27 : decode mX4_wouldBlunt.2.1 27 = .ok (.iload_n 1, 1) := by decide +kernel
theorem dX4_wouldBlunt_28 : decode mX4_wouldBlunt.2.1 28 = .ok (.iaload, 1) := by decide +kernel
theorem dX4_wouldBlunt_29 : decode mX4_wouldBlunt.2.1 29 = .ok (.iadd, 1) := by decide +kernel
theorem dX4_wouldBlunt_30 : decode mX4_wouldBlunt.2.1 30 = .ok (.aload_n 0, 1) := by decide +kernel
theorem dX4_wouldBlunt_31 : decode mX4_wouldBlunt.2.1 31 = .ok (.getfield 28, 3) := by decide +kernel
theorem dX4_wouldBlunt_34 : decode mX4_wouldBlunt.2.1 34 = .ok (.if_icmp .le 5, 3) := by decide +kernel
theorem dX4_wouldBlunt_37 : decode mX4_wouldBlunt.2.1 37 = .ok (.iconst 1, 1) := by decide +kernel
theorem dX4_wouldBlunt_38 : decode mX4_wouldBlunt.2.1 38 = .ok (.ireturn, 1) := by decide +kernel
theorem dX4_wouldBlunt_39 : decode mX4_wouldBlunt.2.1 39 = .ok (.iinc 1 1, 3) := by decide +kernel
theorem dX4_wouldBlunt_42 : decode mX4_wouldBlunt.2.1 42 = .ok (.goto (-40), 3) := by decide +kernel
theorem dX4_wouldBlunt_45 : decode mX4_wouldBlunt.2.1 45 = .ok (.iconst 0, 1) := by decide +kernel
theorem dX4_wouldBlunt_46 : decode mX4_wouldBlunt.2.1 46 = .ok (.ireturn, 1) := by decide +kernel
theorem dX4_stampAll_0 : decode mX4_stampAll.2.1 0 = .ok (.iconst 1, 1) := by decide +kernel
theorem dX4_stampAll_1 : decode mX4_stampAll.2.1 1 = .ok (.istore_n 1, 1) := by decide +kernel
theorem dX4_stampAll_2 : decode mX4_stampAll.2.1 2 = .ok (.iload_n 1, 1) := by decide +kernel
theorem dX4_stampAll_3 : decode mX4_stampAll.2.1 3 = .ok (.bipush 26, 2) := by decide +kernel
theorem dX4_stampAll_5 : decode mX4_stampAll.2.1 5 = .ok (.if_icmp .gt 24, 3) := by decide +kernel
theorem dX4_stampAll_8 : decode mX4_stampAll.2.1 8 = .ok (.aload_n 0, 1) := by decide +kernel
theorem dX4_stampAll_9 : decode mX4_stampAll.2.1 9 = .ok (.getfield 15, 3) := by decide +kernel
theorem dX4_stampAll_12 : decode mX4_stampAll.2.1 12 = .ok (.iload_n 1, 1) := by decide +kernel
theorem dX4_stampAll_13 : decode mX4_stampAll.2.1 13 = .ok (.dup2, 1) := by decide +kernel
theorem dX4_stampAll_14 : decode mX4_stampAll.2.1 14 = .ok (.iaload, 1) := by decide +kernel
theorem dX4_stampAll_15 : decode mX4_stampAll.2.1 15 = .ok (.aload_n 0, 1) := by decide +kernel
theorem dX4_stampAll_16 : decode mX4_stampAll.2.1 16 = .ok (.getfield 34, 3) := by decide +kernel
theorem dX4_stampAll_19 : decode mX4_stampAll.2.1 19 = .ok (.iload_n 1, 1) := by decide +kernel
theorem dX4_stampAll_20 : decode mX4_stampAll.2.1 20 = .ok (.iaload, 1) := by decide +kernel
theorem dX4_stampAll_21 : decode mX4_stampAll.2.1 21 = .ok (.iadd, 1) := by decide +kernel
theorem dX4_stampAll_22 : decode mX4_stampAll.2.1 22 = .ok (.iastore, 1) := by decide +kernel
theorem dX4_stampAll_23 : decode mX4_stampAll.2.1 23 = .ok (.iinc 1 1, 3) := by decide +kernel
theorem dX4_stampAll_26 : decode mX4_stampAll.2.1 26 = .ok (.goto (-24), 3) := by decide +kernel
theorem dX4_stampAll_29 : decode mX4_stampAll.2.1 29 = .ok (.return_, 1) := by decide +kernel

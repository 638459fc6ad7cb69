theorem dX0_init_0 : decode mX0_init.2.1 0 = .ok (.aload_n 0, 1) := by decide +kernel
theorem dX0_init_1 : decode mX0_init.2.1 1 = .ok (.invokespecial 3, 3) := by decide +kernel
theorem dX0_init_4 : decode mX0_init.2.1 4 = .ok (.aload_n 0, 1) := by decide +kernel
theorem dX0_init_5 : decode mX0_init.2.1 5 = .ok (.bipush 6, 2) := by decide +kernel
theorem dX0_init_7 : decode mX0_init.2.1 7 = .ok (.newarray .int, 2) := by decide +kernel
theorem dX0_init_9 : decode mX0_init.2.1 9 = .ok (.putfield 9, 3) := by decide +kernel
theorem dX0_init_12 : decode mX0_init.2.1 12 = .ok (.aload_n 0, 1) := by decide +kernel
theorem dX0_init_13 : decode mX0_init.2.1 13 = .ok (.bipush 6, 2) := by decide +kernel
theorem dX0_init_15 : decode mX0_init.2.1 15 = .ok (.newarray .int, 2) := by decide +kernel
theorem dX0_init_17 : decode mX0_init.2.1 17 = .ok (.putfield 15, 3) := by decide +kernel
theorem dX0_init_20 : decode mX0_init.2.1 20 = .ok (.aload_n 0, 1) := by decide +kernel
theorem dX0_init_21 : decode mX0_init.2.1 21 = .ok (.iconst 5, 1) := by decide +kernel
theorem dX0_init_22 : decode mX0_init.2.1 22 = .ok (.newarray .int, 2) := by decide +kernel
theorem dX0_init_24 : decode mX0_init.2.1 24 = .ok (.putfield 18, 3) := by decide +kernel
theorem dX0_init_27 : decode mX0_init.2.1 27 = .ok (.aload_n 0, 1) := by decide +kernel
theorem dX0_init_28 : decode mX0_init.2.1 28 = .ok (.iconst 5, 1) := by decide +kernel
theorem dX0_init_29 : decode mX0_init.2.1 29 = .ok (.newarray .int, 2) := by decide +kernel
theorem dX0_init_31 : decode mX0_init.2.1 31 = .ok (.putfield 21, 3) := by decide +kernel
theorem dX0_init_34 : decode mX0_init.2.1 34 = .ok (.aload_n 0, 1) := by decide +kernel
theorem dX0_init_35 : decode mX0_init.2.1 35 = .ok (.iconst 5, 1) := by decide +kernel
theorem dX0_init_36 : decode mX0_init.2.1 36 = .ok (.newarray .int, 2) := by decide +kernel
theorem dX0_init_38 : decode mX0_init.2.1 38 = .ok (.putfield 24, 3) := by decide +kernel
theorem dX0_init_41 : decode mX0_init.2.1 41 = .ok (.aload_n 0, 1) := by decide +kernel
theorem dX0_init_42 : decode mX0_init.2.1 42 = .ok (.iconst 0, 1) := by decide +kernel
theorem dX0_init_43 : decode mX0_init.2.1 43 = .ok (.putfield 27, 3) := by decide +kernel
theorem dX0_init_46 : decode mX0_init.2.1 46 = .ok (.aload_n 0, 1) := by decide +kernel
theorem dX0_init_47 : decode mX0_init.2.1 47 = .ok (.iconst 0, 1) := by decide +kernel
theorem dX0_init_48 : decode mX0_init.2.1 48 = .ok (.putfield 31, 3) := by decide +kernel
theorem dX0_init_51 : decode mX0_init.2.1 51 = .ok (.aload_n 0, 1) := by decide +kernel
theorem dX0_init_52 : decode mX0_init.2.1 52 = .ok (.iconst 0, 1) := by decide +kernel
theorem dX0_init_53 : decode mX0_init.2.1 53 = .ok (.putfield 34, 3) := by decide +kernel
theorem dX0_init_56 : decode mX0_init.2.1 56 = .ok (.aload_n 0, 1) := by decide +kernel
theorem dX0_init_57 : decode mX0_init.2.1 57 = .ok (.iconst 0, 1) := by decide +kernel
theorem dX0_init_58 : decode mX0_init.2.1 58 = .ok (.putfield 37, 3) := by decide +kernel
theorem dX0_init_61 : decode mX0_init.2.1 61 = .ok (.aload_n 0, 1) := by decide +kernel
theorem dX0_init_62 : decode mX0_init.2.1 62 = .ok (.sipush 2000, 3) := by decide +kernel
theorem dX0_init_65 : decode mX0_init.2.1 65 = .ok (.putfield 40, 3) := by decide +kernel
theorem dX0_init_68 : decode mX0_init.2.1 68 = .ok (.aload_n 0, 1) := by decide +kernel
theorem dX0_init_69 : decode mX0_init.2.1 69 = .ok (.iconst 0, 1) := by decide +kernel
theorem dX0_init_70 : decode mX0_init.2.1 70 = .ok (.putfield 43, 3) := by decide +kernel
theorem dX0_init_73 : decode mX0_init.2.1 73 = .ok (.iconst 0, 1) := by decide +kernel
theorem dX0_init_74 : decode mX0_init.2.1 74 = .ok (.istore_n 1, 1) := by decide +kernel
theorem dX0_init_75 : decode mX0_init.2.1 75 = .ok (.iload_n 1, 1) := by decide +kernel
theorem dX0_init_76 : decode mX0_init.2.1 76 = .ok (.iconst 5, 1) := by decide +kernel
theorem dX0_init_77 : decode mX0_init.2.1 77 = .ok (.if_icmp .ge 16, 3) := by decide +kernel
theorem dX0_init_80 : decode mX0_init.2.1 80 = .ok (.aload_n 0, 1) := by decide +kernel
theorem dX0_init_81 : decode mX0_init.2.1 81 = .ok (.getfield 24, 3) := by decide +kernel
theorem dX0_init_84 : decode mX0_init.2.1 84 = .ok (.iload_n 1, 1) := by decide +kernel
theorem dX0_init_85 : decode mX0_init.2.1 85 = .ok (.iconst 1, 1) := by decide +kernel
theorem dX0_init_86 : decode mX0_init.2.1 86 = .ok (.iastore, 1) := by decide +kernel
theorem dX0_init_87 : decode mX0_init.2.1 87 = .ok (.iinc 1 1, 3) := by decide +kernel
theorem dX0_init_90 : decode mX0_init.2.1 90 = .ok (.goto (-15), 3) := by decide +kernel
theorem dX0_init_93 : decode mX0_init.2.1 93 = .ok (.return_, 1) := by decide +kernel
theorem dX0_addGathering_0 : decode mX0_addGathering.2.1 0 = .ok (.aload_n 0, 1) := by decide +kernel
theorem dX0_addGathering_1 : decode mX0_addGathering.2.1 1 = .ok (.getfield 27, 3) := by decide +kernel
theorem dX0_addGathering_4 : decode mX0_addGathering.2.1 4 = .ok (.bipush 6, 2) := by decide +kernel
theorem dX0_addGathering_6 : decode mX0_addGathering.2.1 6 = .ok (.if_icmp .lt 6, 3) := by decide +kernel
theorem dX0_addGathering_9 : decode mX0_addGathering.2.1 9 = .ok (.bipush (-6), 2) := by decide +kernel
theorem dX0_addGathering_11 : decode mX0_addGathering.2.1 11 = .ok (.ireturn, 1) := by decide +kernel
theorem dX0_addGathering_12 : decode mX0_addGathering.2.1 12 = .ok (.aload_n 0, 1) := by decide +kernel
theorem dX0_addGathering_13 : decode mX0_addGathering.2.1 13 = .ok (.getfield 9, 3) := by decide +kernel
theorem dX0_addGathering_16 : decode mX0_addGathering.2.1 16 = .ok (.aload_n 0, 1) := by decide +kernel
theorem dX0_addGathering_17 : decode mX0_addGathering.2.1 17 = .ok (.getfield 27, 3) := by decide +kernel
theorem dX0_addGathering_20 : decode mX0_addGathering.2.1 20 = .ok (.iload_n 1, 1) := by decide +kernel
theorem dX0_addGathering_21 : decode mX0_addGathering.2.1 21 = .ok (.iastore, 1) := by decide +kernel
theorem dX0_addGathering_22 : decode mX0_addGathering.2.1 22 = .ok (.aload_n 0, 1) := by decide +kernel
theorem dX0_addGathering_23 : decode mX0_addGathering.2.1 23 = .ok (.getfield 15, 3) := by decide +kernel
theorem dX0_addGathering_26 : decode mX0_addGathering.2.1 26 = .ok (.aload_n 0, 1) := by decide +kernel
theorem dX0_addGathering_27 : decode mX0_addGathering.2.1 27 = .ok (.getfield 27, 3) := by decide +kernel
theorem dX0_addGathering_30 : decode mX0_addGathering.2.1 30 = .ok (.iload_n 1, 1) := by decide +kernel
theorem dX0_addGathering_31 : decode mX0_addGathering.2.1 31 = .ok (.invokestatic 46, 3) := by decide +kernel
theorem dX0_addGathering_34 : decode mX0_addGathering.2.1 34 = .ok (.iastore, 1) := by decide +kernel
theorem dX0_addGathering_35 : decode mX0_addGathering.2.1 35 = .ok (.aload_n 0, 1) := by decide +kernel
theorem dX0_addGathering_36 : decode mX0_addGathering.2.1 36 = .ok (.dup, 1) := by decide +kernel
theorem dX0_addGathering_37 : decode mX0_addGathering.2.1 37 = .ok (.getfield 27, 3) := by decide +kernel
theorem dX0_addGathering_40 : decode mX0_addGathering.2.1 40 = .ok (.iconst 1, 1) := by decide +kernel
theorem dX0_addGathering_41 : decode mX0_addGathering.2.1 41 = .ok (.iadd, 1) := by decide +kernel
theorem dX0_addGathering_42 : decode mX0_addGathering.2.1 42 = .ok (.putfield 27, 3) := by decide +kernel
theorem dX0_addGathering_45 : decode mX0_addGathering.2.1 45 = .ok (.aload_n 0, 1) := by decide +kernel
theorem dX0_addGathering_46 : decode mX0_addGathering.2.1 46 = .ok (.getfield 27, 3) := by decide +kernel
theorem dX0_addGathering_49 : decode mX0_addGathering.2.1 49 = .ok (.iconst 1, 1) := by decide +kernel
theorem dX0_addGathering_50 : decode mX0_addGathering.2.1 50 = .ok (.isub, 1) := by decide +kernel
theorem dX0_addGathering_51 : decode mX0_addGathering.2.1 51 = .ok (.ireturn, 1) := by decide +kernel
theorem dX0_hasGathering_0 : decode mX0_hasGathering.2.1 0 = .ok (.iload_n 1, 1) := by decide +kernel
theorem dX0_hasGathering_1 : decode mX0_hasGathering.2.1 1 = .ok (.iconst 0, 1) := by decide +kernel
theorem dX0_hasGathering_2 : decode mX0_hasGathering.2.1 2 = .ok (.aload_n 0, 1) := by decide +kernel
theorem dX0_hasGathering_3 : decode mX0_hasGathering.2.1 3 = .ok (.getfield 27, 3) := by decide +kernel
theorem dX0_hasGathering_6 : decode mX0_hasGathering.2.1 6 = .ok (.iconst 1, 1) := by decide +kernel
theorem dX0_hasGathering_7 : decode mX0_hasGathering.2.1 7 = .ok (.isub, 1) := by decide +kernel
theorem dX0_hasGathering_8 : decode mX0_hasGathering.2.1 8 = .ok (.invokestatic 50, 3) := by decide +kernel
theorem dX0_hasGathering_11 : decode mX0_hasGathering.2.1 11 = .ok (.ireturn, 1) := by decide +kernel
theorem dX0_hasLeaves_0 : decode mX0_hasLeaves.2.1 0 = .ok (.iload_n 2, 1) := by decide +kernel
theorem dX0_hasLeaves_1 : decode mX0_hasLeaves.2.1 1 = .ok (.aload_n 0, 1) := by decide +kernel
theorem dX0_hasLeaves_2 : decode mX0_hasLeaves.2.1 2 = .ok (.getfield 9, 3) := by decide +kernel
theorem dX0_hasLeaves_5 : decode mX0_hasLeaves.2.1 5 = .ok (.iload_n 1, 1) := by decide +kernel
theorem dX0_hasLeaves_6 : decode mX0_hasLeaves.2.1 6 = .ok (.iaload, 1) := by decide +kernel
theorem dX0_hasLeaves_7 : decode mX0_hasLeaves.2.1 7 = .ok (.invokestatic 46, 3) := by decide +kernel
theorem dX0_hasLeaves_10 : decode mX0_hasLeaves.2.1 10 = .ok (.iconst (-1), 1) := by decide +kernel
theorem dX0_hasLeaves_11 : decode mX0_hasLeaves.2.1 11 = .ok (.ixor, 1) := by decide +kernel
theorem dX0_hasLeaves_12 : decode mX0_hasLeaves.2.1 12 = .ok (.iand, 1) := by decide +kernel
theorem dX0_hasLeaves_13 : decode mX0_hasLeaves.2.1 13 = .ok (.ifCond .ne 7, 3) := by decide +kernel
theorem dX0_hasLeaves_16 : decode mX0_hasLeaves.2.1 16 = .ok (.iconst 1, 1) := by decide +kernel
theorem dX0_hasLeaves_17 : decode mX0_hasLeaves.2.1 17 = .ok (.goto 4, 3) := by decide +kernel
theorem dX0_hasLeaves_20 : decode mX0_hasLeaves.2.1 20 = .ok (.iconst 0, 1) := by decide +kernel
theorem dX0_hasLeaves_21 : decode mX0_hasLeaves.2.1 21 = .ok (.ireturn, 1) := by decide +kernel
theorem dX0_inspect_0 : decode mX0_inspect.2.1 0 = .ok (.aload_n 0, 1) := by decide +kernel
theorem dX0_inspect_1 : decode mX0_inspect.2.1 1 = .ok (.getfield 15, 3) := by decide +kernel
theorem dX0_inspect_4 : decode mX0_inspect.2.1 4 = .ok (.iload_n 1, 1) := by decide +kernel
theorem dX0_inspect_5 : decode mX0_inspect.2.1 5 = .ok (.iaload, 1) := by decide +kernel
theorem dX0_inspect_6 : decode mX0_inspect.2.1 6 = .ok (.iload_n 2, 1) := by decide +kernel
theorem dX0_inspect_7 : decode mX0_inspect.2.1 7 = .ok (.iconst (-1), 1) := by decide +kernel
theorem dX0_inspect_8 : decode mX0_inspect.2.1 8 = .ok (.ixor, 1) := by decide +kernel
theorem dX0_inspect_9 : decode mX0_inspect.2.1 9 = .ok (.iand, 1) := by decide +kernel
theorem dX0_inspect_10 : decode mX0_inspect.2.1 10 = .ok (.invokestatic 54, 3) := by decide +kernel
theorem dX0_inspect_13 : decode mX0_inspect.2.1 13 = .ok (.istore_n 3, 1) := by decide +kernel
theorem dX0_inspect_14 : decode mX0_inspect.2.1 14 = .ok (.iload_n 2, 1) := by decide +kernel
theorem dX0_inspect_15 : decode mX0_inspect.2.1 15 = .ok (.aload_n 0, 1) := by decide +kernel
theorem dX0_inspect_16 : decode mX0_inspect.2.1 16 = .ok (.getfield 15, 3) := by decide +kernel
theorem dX0_inspect_19 : decode mX0_inspect.2.1 19 = .ok (.iload_n 1, 1) := by decide +kernel
theorem dX0_inspect_20 : decode mX0_inspect.2.1 20 = .ok (.iaload, 1) := by decide +kernel
theorem dX0_inspect_21 : decode mX0_inspect.2.1 21 = .ok (.iconst (-1), 1) := by decide +kernel
theorem dX0_inspect_22 : decode mX0_inspect.2.1 22 = .ok (.ixor, 1) := by decide +kernel
theorem dX0_inspect_23 : decode mX0_inspect.2.1 23 = .ok (.iand, 1) := by decide +kernel
theorem dX0_inspect_24 : decode mX0_inspect.2.1 24 = .ok (.invokestatic 54, 3) := by decide +kernel
theorem dX0_inspect_27 : decode mX0_inspect.2.1 27 = .ok (.istore 4, 2) := by decide +kernel
theorem dX0_inspect_29 : decode mX0_inspect.2.1 29 = .ok (.aload_n 0, 1) := by decide +kernel
theorem dX0_inspect_30 : decode mX0_inspect.2.1 30 = .ok (.getfield 31, 3) := by decide +kernel
theorem dX0_inspect_33 : decode mX0_inspect.2.1 33 = .ok (.iconst 5, 1) := by decide +kernel
theorem dX0_inspect_34 : decode mX0_inspect.2.1 34 = .ok (.if_icmp .ge 30, 3) := by decide +kernel
theorem dX0_inspect_37 : decode mX0_inspect.2.1 37 = .ok (.aload_n 0, 1) := by decide +kernel
theorem dX0_inspect_38 : decode mX0_inspect.2.1 38 = .ok (.getfield 18, 3) := by decide +kernel
theorem dX0_inspect_41 : decode mX0_inspect.2.1 41 = .ok (.aload_n 0, 1) := by decide +kernel
theorem dX0_inspect_42 : decode mX0_inspect.2.1 42 = .ok (.getfield 31, 3) := by decide +kernel
theorem dX0_inspect_45 : decode mX0_inspect.2.1 45 = .ok (.dup2, 1) := by decide +kernel
theorem dX0_inspect_46 : decode mX0_inspect.2.1 46 = .ok (.iaload, 1) := by decide +kernel
theorem dX0_inspect_47 : decode mX0_inspect.2.1 47 = .ok (.iload_n 3, 1) := by decide +kernel
theorem dX0_inspect_48 : decode mX0_inspect.2.1 48 = .ok (.iadd, 1) := by decide +kernel
theorem dX0_inspect_49 : decode mX0_inspect.2.1 49 = .ok (.iastore, 1) := by decide +kernel
theorem dX0_inspect_50 : decode mX0_inspect.2.1 50 = .ok (.aload_n 0, 1) := by decide +kernel
theorem dX0_inspect_51 : decode mX0_inspect.2.1 51 = .ok (.getfield 21, 3) := by decide +kernel
theorem dX0_inspect_54 : decode mX0_inspect.2.1 54 = .ok (.aload_n 0, 1) := by decide +kernel
theorem dX0_inspect_55 : decode mX0_inspect.2.1 55 = .ok (.getfield 31, 3) := by decide +kernel
theorem dX0_inspect_58 : decode mX0_inspect.2.1 58 = .ok (.dup2, 1) := by decide +kernel
theorem dX0_inspect_59 : decode mX0_inspect.2.1 59 = .ok (.iaload, 1) := by decide +kernel
theorem dX0_inspect_60 : decode mX0_inspect.2.1 60 = .ok (.iload 4, 2) := by decide +kernel
theorem dX0_inspect_62 : decode mX0_inspect.2.1 62 = .ok (.iadd, 1) := by decide +kernel
theorem dX0_inspect_63 : decode mX0_inspect.2.1 63 = .ok (.iastore, 1) := by decide +kernel
theorem dX0_inspect_64 : decode mX0_inspect.2.1 64 = .ok (.aload_n 0, 1) := by decide +kernel
theorem dX0_inspect_65 : decode mX0_inspect.2.1 65 = .ok (.getfield 15, 3) := by decide +kernel
theorem dX0_inspect_68 : decode mX0_inspect.2.1 68 = .ok (.iload_n 1, 1) := by decide +kernel
theorem dX0_inspect_69 : decode mX0_inspect.2.1 69 = .ok (.iload_n 2, 1) := by decide +kernel
theorem dX0_inspect_70 : decode mX0_inspect.2.1 70 = .ok (.iastore, 1) := by decide +kernel
theorem dX0_inspect_71 : decode mX0_inspect.2.1 71 = .ok (.aload_n 0, 1) := by decide +kernel
theorem dX0_inspect_72 : decode mX0_inspect.2.1 72 = .ok (.dup, 1) := by decide +kernel
theorem dX0_inspect_73 : decode mX0_inspect.2.1 73 = .ok (.getfield 34, 3) := by decide +kernel
theorem dX0_inspect_76 : decode mX0_inspect.2.1 76 = .ok (.iconst 1, 1) := by decide +kernel
theorem dX0_inspect_77 : decode mX0_inspect.2.1 77 = .ok (.iload_n 1, 1) := by decide +kernel
theorem dX0_inspect_78 : decode mX0_inspect.2.1 78 = .ok (.ishl, 1) := by decide +kernel
theorem dX0_inspect_79 : decode mX0_inspect.2.1 79 = .ok (.ior, 1) := by decide +kernel
theorem dX0_inspect_80 : decode mX0_inspect.2.1 80 = .ok (.putfield 34, 3) := by decide +kernel
theorem dX0_inspect_83 : decode mX0_inspect.2.1 83 = .ok (.iload_n 3, 1) := by decide +kernel
theorem dX0_inspect_84 : decode mX0_inspect.2.1 84 = .ok (.iload 4, 2) := by decide +kernel
theorem dX0_inspect_86 : decode mX0_inspect.2.1 86 = .ok (.iadd, 1) := by decide +kernel
theorem dX0_inspect_87 : decode mX0_inspect.2.1 87 = .ok (.ireturn, 1) := by decide +kernel
theorem dX0_mayMoveOn_0 : decode mX0_mayMoveOn.2.1 0 = .ok (.aload_n 0, 1) := by decide +kernel
theorem dX0_mayMoveOn_1 : decode mX0_mayMoveOn.2.1 1 = .ok (.getfield 31, 3) := by decide +kernel
theorem dX0_mayMoveOn_4 : decode mX0_mayMoveOn.2.1 4 = .ok (.iconst 5, 1) := by decide +kernel
theorem dX0_mayMoveOn_5 : decode mX0_mayMoveOn.2.1 5 = .ok (.if_icmp .eq 28, 3) := by decide +kernel
theorem dX0_mayMoveOn_8 : decode mX0_mayMoveOn.2.1 8 = .ok (.aload_n 0, 1) := by decide +kernel
theorem dX0_mayMoveOn_9 : decode mX0_mayMoveOn.2.1 9 = .ok (.getfield 27, 3) := by decide +kernel
theorem dX0_mayMoveOn_12 : decode mX0_mayMoveOn.2.1 12 = .ok (.ifCond .le 21, 3) := by decide +kernel
theorem dX0_mayMoveOn_15 : decode mX0_mayMoveOn.2.1 15 = .ok (.aload_n 0, 1) := by decide +kernel
theorem dX0_mayMoveOn_16 : decode mX0_mayMoveOn.2.1 16 = .ok (.getfield 34, 3) := by decide +kernel
theorem dX0_mayMoveOn_19 : decode mX0_mayMoveOn.2.1 19 = .ok (.aload_n 0, 1) := by decide +kernel
theorem dX0_mayMoveOn_20 : decode mX0_mayMoveOn.2.1 20 = .ok (.getfield 27, 3) := by decide +kernel
theorem dX0_mayMoveOn_23 : decode mX0_mayMoveOn.2.1 23 = .ok (.invokestatic 46, 3) := by decide +kernel
theorem dX0_mayMoveOn_26 : decode mX0_mayMoveOn.2.1 26 = .ok (.if_icmp .ne 7, 3) := by decide +kernel
theorem dX0_mayMoveOn_29 : decode mX0_mayMoveOn.2.1 29 = .ok (.iconst 1, 1) := by decide +kernel
theorem dX0_mayMoveOn_30 : decode mX0_mayMoveOn.2.1 30 = .ok (.goto 4, 3) := by decide +kernel
theorem dX0_mayMoveOn_33 : decode mX0_mayMoveOn.2.1 33 = .ok (.iconst 0, 1) := by decide +kernel
theorem dX0_mayMoveOn_34 : decode mX0_mayMoveOn.2.1 34 = .ok (.ireturn, 1) := by decide +kernel
theorem dX0_moveOn_0 : decode mX0_moveOn.2.1 0 = .ok (.aload_n 0, 1) := by decide +kernel
theorem dX0_moveOn_1 : decode mX0_moveOn.2.1 1 = .ok (.dup, 1) := by decide +kernel
theorem dX0_moveOn_2 : decode mX0_moveOn.2.1 2 = .ok (.getfield 31, 3) := by decide +kernel
theorem dX0_moveOn_5 : decode mX0_moveOn.2.1 5 = .ok (.iconst 1, 1) := by decide +kernel
theorem dX0_moveOn_6 : decode mX0_moveOn.2.1 6 = .ok (.iadd, 1) := by decide +kernel
theorem dX0_moveOn_7 : decode mX0_moveOn.2.1 7 = .ok (.putfield 31, 3) := by decide +kernel
theorem dX0_moveOn_10 : decode mX0_moveOn.2.1 10 = .ok (.aload_n 0, 1) := by decide +kernel
theorem dX0_moveOn_11 : decode mX0_moveOn.2.1 11 = .ok (.iconst 0, 1) := by decide +kernel
theorem dX0_moveOn_12 : decode mX0_moveOn.2.1 12 = .ok (.putfield 34, 3) := by decide +kernel
theorem dX0_moveOn_15 : decode mX0_moveOn.2.1 15 = .ok (.aload_n 0, 1) := by decide +kernel
theorem dX0_moveOn_16 : decode mX0_moveOn.2.1 16 = .ok (.getfield 31, 3) := by decide +kernel
theorem dX0_moveOn_19 : decode mX0_moveOn.2.1 19 = .ok (.ireturn, 1) := by decide +kernel
theorem dX0_leavesBelieved_0 : decode mX0_leavesBelieved.2.1 0 = .ok (.iconst 0, 1) := by decide +kernel
theorem dX0_leavesBelieved_1 : decode mX0_leavesBelieved.2.1 1 = .ok (.istore_n 1, 1) := by decide +kernel
theorem dX0_leavesBelieved_2 : decode mX0_leavesBelieved.2.1 2 = .ok (.iconst 0, 1) := by decide +kernel
theorem dX0_leavesBelieved_3 : decode mX0_leavesBelieved.2.1 3 = .ok (.istore_n 2, 1) := by decide +kernel
theorem dX0_leavesBelieved_4 : decode mX0_leavesBelieved.2.1 4 = .ok (.iload_n 2, 1) := by decide +kernel
theorem dX0_leavesBelieved_5 : decode mX0_leavesBelieved.2.1 5 = .ok (.aload_n 0, 1) := by decide +kernel
theorem dX0_leavesBelieved_6 : decode mX0_leavesBelieved.2.1 6 = .ok (.getfield 27, 3) := by decide +kernel
theorem dX0_leavesBelieved_9 : decode mX0_leavesBelieved.2.1 9 = .ok (.if_icmp .ge 21, 3) := by decide +kernel
theorem dX0_leavesBelieved_12 : decode mX0_leavesBelieved.2.1 12 = .ok (.iload_n 1, 1) := by decide +kernel
theorem dX0_leavesBelieved_13 : decode mX0_leavesBelieved.2.1 13 = .ok (.aload_n 0, 1) := by decide +kernel
theorem dX0_leavesBelieved_14 : decode mX0_leavesBelieved.2.1 14 = .ok (.getfield 15, 3) := by decide +kernel
theorem dX0_leavesBelieved_17 : decode mX0_leavesBelieved.2.1 17 = .ok (.iload_n 2, 1) := by decide +kernel
theorem dX0_leavesBelieved_18 : decode mX0_leavesBelieved.2.1 18 = .ok (.iaload, 1) := by decide +kernel
theorem dX0_leavesBelieved_19 : decode mX0_leavesBelieved.2.1 19 = .ok (.invokestatic 54, 3) := by decide +kernel
theorem dX0_leavesBelieved_22 : decode mX0_leavesBelieved.2.1 22 = .ok (.iadd, 1) := by decide +kernel
theorem dX0_leavesBelieved_23 : decode mX0_leavesBelieved.2.1 23 = .ok (.istore_n 1, 1) := by decide +kernel
theorem dX0_leavesBelieved_24 : decode mX0_leavesBelieved.2.1 24 = .ok (.iinc 2 1, 3) := by decide +kernel
theorem dX0_leavesBelieved_27 : decode mX0_leavesBelieved.2.1 27 = .ok (.goto (-23), 3) := by decide +kernel
theorem dX0_leavesBelieved_30 : decode mX0_leavesBelieved.2.1 30 = .ok (.iload_n 1, 1) := by decide +kernel
theorem dX0_leavesBelieved_31 : decode mX0_leavesBelieved.2.1 31 = .ok (.ireturn, 1) := by decide +kernel
theorem dX0_leavesInAll_0 : decode mX0_leavesInAll.2.1 0 = .ok (.iconst 0, 1) := by decide +kernel
theorem dX0_leavesInAll_1 : decode mX0_leavesInAll.2.1 1 = .ok (.istore_n 1, 1) := by decide +kernel
theorem dX0_leavesInAll_2 : decode mX0_leavesInAll.2.1 2 = .ok (.iconst 0, 1) := by decide +kernel
theorem dX0_leavesInAll_3 : decode mX0_leavesInAll.2.1 3 = .ok (.istore_n 2, 1) := by decide +kernel
theorem dX0_leavesInAll_4 : decode mX0_leavesInAll.2.1 4 = .ok (.iload_n 2, 1) := by decide +kernel
theorem dX0_leavesInAll_5 : decode mX0_leavesInAll.2.1 5 = .ok (.aload_n 0, 1) := by decide +kernel
theorem dX0_leavesInAll_6 : decode mX0_leavesInAll.2.1 6 = .ok (.getfield 27, 3) := by decide +kernel
theorem dX0_leavesInAll_9 : decode mX0_leavesInAll.2.1 9 = .ok (.if_icmp .ge 18, 3) := by decide +kernel
theorem dX0_leavesInAll_12 : decode mX0_leavesInAll.2.1 12 = .ok (.iload_n 1, 1) := by decide +kernel
theorem dX0_leavesInAll_13 : decode mX0_leavesInAll.2.1 13 = .ok (.aload_n 0, 1) := by decide +kernel
theorem dX0_leavesInAll_14 : decode mX0_leavesInAll.2.1 14 = .ok (.getfield 9, 3) := by decide +kernel
theorem dX0_leavesInAll_17 : decode mX0_leavesInAll.2.1 17 = .ok (.iload_n 2, 1) := by decide +kernel
theorem dX0_leavesInAll_18 : decode mX0_leavesInAll.2.1 18 = .ok (.iaload, 1) := by decide +kernel
theorem dX0_leavesInAll_19 : decode mX0_leavesInAll.2.1 19 = .ok (.iadd, 1) := by decide +kernel
theorem dX0_leavesInAll_20 : decode mX0_leavesInAll.2.1 20 = .ok (.istore_n 1, 1) := by decide +kernel
theorem dX0_leavesInAll_21 : decode mX0_leavesInAll.2.1 21 = .ok (.iinc 2 1, 3) := by decide +kernel
theorem dX0_leavesInAll_24 : decode mX0_leavesInAll.2.1 24 = .ok (.goto (-20), 3) := by decide +kernel
theorem dX0_leavesInAll_27 : decode mX0_leavesInAll.2.1 27 = .ok (.iload_n 1, 1) := by decide +kernel
theorem dX0_leavesInAll_28 : decode mX0_leavesInAll.2.1 28 = .ok (.ireturn, 1) := by decide +kernel
theorem dX0_allOf_0 : decode mX0_allOf.2.1 0 = .ok (.iconst 1, 1) := by decide +kernel
theorem dX0_allOf_1 : decode mX0_allOf.2.1 1 = .ok (.iload_n 0, 1) := by decide +kernel
theorem dX0_allOf_2 : decode mX0_allOf.2.1 2 = .ok (.ishl, 1) := by decide +kernel
theorem dX0_allOf_3 : decode mX0_allOf.2.1 3 = .ok (.iconst 1, 1) := by decide +kernel
theorem dX0_allOf_4 : decode mX0_allOf.2.1 4 = .ok (.isub, 1) := by decide +kernel
theorem dX0_allOf_5 : decode mX0_allOf.2.1 5 = .ok (.ireturn, 1) := by decide +kernel

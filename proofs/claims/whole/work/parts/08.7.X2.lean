theorem dX2_init_0 : decode mX2_init.2.1 0 = .ok (.aload_n 0, 1) := by decide +kernel
theorem dX2_init_1 : decode mX2_init.2.1 1 = .ok (.invokespecial 3, 3) := by decide +kernel
theorem dX2_init_4 : decode mX2_init.2.1 4 = .ok (.aload_n 0, 1) := by decide +kernel
theorem dX2_init_5 : decode mX2_init.2.1 5 = .ok (.bipush 7, 2) := by decide +kernel
theorem dX2_init_7 : decode mX2_init.2.1 7 = .ok (.newarray .int, 2) := by decide +kernel
theorem dX2_init_9 : decode mX2_init.2.1 9 = .ok (.putfield 9, 3) := by decide +kernel
theorem dX2_init_12 : decode mX2_init.2.1 12 = .ok (.aload_n 0, 1) := by decide +kernel
theorem dX2_init_13 : decode mX2_init.2.1 13 = .ok (.bipush 7, 2) := by decide +kernel
theorem dX2_init_15 : decode mX2_init.2.1 15 = .ok (.newarray .int, 2) := by decide +kernel
theorem dX2_init_17 : decode mX2_init.2.1 17 = .ok (.putfield 15, 3) := by decide +kernel
theorem dX2_init_20 : decode mX2_init.2.1 20 = .ok (.aload_n 0, 1) := by decide +kernel
theorem dX2_init_21 : decode mX2_init.2.1 21 = .ok (.bipush 35, 2) := by decide +kernel
theorem dX2_init_23 : decode mX2_init.2.1 23 = .ok (.newarray .int, 2) := by decide +kernel
theorem dX2_init_25 : decode mX2_init.2.1 25 = .ok (.putfield 18, 3) := by decide +kernel
theorem dX2_init_28 : decode mX2_init.2.1 28 = .ok (.aload_n 0, 1) := by decide +kernel
theorem dX2_init_29 : decode mX2_init.2.1 29 = .ok (.bipush 7, 2) := by decide +kernel
theorem dX2_init_31 : decode mX2_init.2.1 31 = .ok (.newarray .int, 2) := by decide +kernel
theorem dX2_init_33 : decode mX2_init.2.1 33 = .ok (.putfield 21, 3) := by decide +kernel
theorem dX2_init_36 : decode mX2_init.2.1 36 = .ok (.aload_n 0, 1) := by decide +kernel
theorem dX2_init_37 : decode mX2_init.2.1 37 = .ok (.bipush 7, 2) := by decide +kernel
theorem dX2_init_39 : decode mX2_init.2.1 39 = .ok (.newarray .int, 2) := by decide +kernel
theorem dX2_init_41 : decode mX2_init.2.1 41 = .ok (.putfield 24, 3) := by decide +kernel
theorem dX2_init_44 : decode mX2_init.2.1 44 = .ok (.aload_n 0, 1) := by decide +kernel
theorem dX2_init_45 : decode mX2_init.2.1 45 = .ok (.bipush 7, 2) := by decide +kernel
theorem dX2_init_47 : decode mX2_init.2.1 47 = .ok (.newarray .int, 2) := by decide +kernel
theorem dX2_init_49 : decode mX2_init.2.1 49 = .ok (.putfield 27, 3) := by decide +kernel
theorem dX2_init_52 : decode mX2_init.2.1 52 = .ok (.aload_n 0, 1) := by decide +kernel
theorem dX2_init_53 : decode mX2_init.2.1 53 = .ok (.bipush 7, 2) := by decide +kernel
theorem dX2_init_55 : decode mX2_init.2.1 55 = .ok (.newarray .int, 2) := by decide +kernel
theorem dX2_init_57 : decode mX2_init.2.1 57 = .ok (.putfield 30, 3) := by decide +kernel
theorem dX2_init_60 : decode mX2_init.2.1 60 = .ok (.aload_n 0, 1) := by decide +kernel
theorem dX2_init_61 : decode mX2_init.2.1 61 = .ok (.bipush 7, 2) := by decide +kernel
theorem dX2_init_63 : decode mX2_init.2.1 63 = .ok (.newarray .int, 2) := by decide +kernel
theorem dX2_init_65 : decode mX2_init.2.1 65 = .ok (.putfield 33, 3) := by decide +kernel
theorem dX2_init_68 : decode mX2_init.2.1 68 = .ok (.aload_n 0, 1) := by decide +kernel
theorem dX2_init_69 : decode mX2_init.2.1 69 = .ok (.bipush 40, 2) := by decide +kernel
theorem dX2_init_71 : decode mX2_init.2.1 71 = .ok (.newarray .int, 2) := by decide +kernel
theorem dX2_init_73 : decode mX2_init.2.1 73 = .ok (.putfield 36, 3) := by decide +kernel
theorem dX2_init_76 : decode mX2_init.2.1 76 = .ok (.aload_n 0, 1) := by decide +kernel
theorem dX2_init_77 : decode mX2_init.2.1 77 = .ok (.iconst 0, 1) := by decide +kernel
theorem dX2_init_78 : decode mX2_init.2.1 78 = .ok (.putfield 39, 3) := by decide +kernel
theorem dX2_init_81 : decode mX2_init.2.1 81 = .ok (.aload_n 0, 1) := by decide +kernel
theorem dX2_init_82 : decode mX2_init.2.1 82 = .ok (.iconst 0, 1) := by decide +kernel
theorem dX2_init_83 : decode mX2_init.2.1 83 = .ok (.putfield 43, 3) := by decide +kernel
theorem dX2_init_86 : decode mX2_init.2.1 86 = .ok (.aload_n 0, 1) := by decide +kernel
theorem dX2_init_87 : decode mX2_init.2.1 87 = .ok (.iconst 0, 1) := by decide +kernel
theorem dX2_init_88 : decode mX2_init.2.1 88 = .ok (.putfield 46, 3) := by decide +kernel
theorem dX2_init_91 : decode mX2_init.2.1 91 = .ok (.return_, 1) := by decide +kernel
theorem dX2_clear_0 : decode mX2_clear.2.1 0 = .ok (.aload_n 0, 1) := by decide +kernel
theorem dX2_clear_1 : decode mX2_clear.2.1 1 = .ok (.iconst 0, 1) := by decide +kernel
theorem dX2_clear_2 : decode mX2_clear.2.1 2 = .ok (.putfield 39, 3) := by decide +kernel
theorem dX2_clear_5 : decode mX2_clear.2.1 5 = .ok (.return_, 1) := by decide +kernel
theorem dX2_enlist_0 : decode mX2_enlist.2.1 0 = .ok (.aload_n 0, 1) := by decide +kernel
theorem dX2_enlist_1 : decode mX2_enlist.2.1 1 = .ok (.getfield 39, 3) := by decide +kernel
theorem dX2_enlist_4 : decode mX2_enlist.2.1 4 = .ok (.bipush 7, 2) := by decide +kernel
theorem dX2_enlist_6 : decode mX2_enlist.2.1 6 = .ok (.if_icmp .lt 4, 3) := by decide +kernel
theorem dX2_enlist_9 : decode mX2_enlist.2.1 9 = .ok (.return_, 1) := by decide +kernel
theorem dX2_enlist_10 : decode mX2_enlist.2.1 10 = .ok (.aload_n 0, 1) := by decide +kernel
theorem dX2_enlist_11 : decode mX2_enlist.2.1 11 = .ok (.getfield 15, 3) := by decide +kernel
theorem dX2_enlist_14 : decode mX2_enlist.2.1 14 = .ok (.aload_n 0, 1) := by decide +kernel
theorem dX2_enlist_15 : decode mX2_enlist.2.1 15 = .ok (.getfield 39, 3) := by decide +kernel
theorem dX2_enlist_18 : decode mX2_enlist.2.1 18 = .ok (.iload_n 1, 1) := by decide +kernel
theorem dX2_enlist_19 : decode mX2_enlist.2.1 19 = .ok (.iastore, 1) := by decide +kernel
theorem dX2_enlist_20 : decode mX2_enlist.2.1 20 = .ok (.iconst 0, 1) := by decide +kernel
theorem dX2_enlist_21 : decode mX2_enlist.2.1 21 = .ok (.istore_n 3, 1) := by decide +kernel
theorem dX2_enlist_22 : decode mX2_enlist.2.1 22 = .ok (.iload_n 3, 1) := by decide +kernel
theorem dX2_enlist_23 : decode mX2_enlist.2.1 23 = .ok (.iconst 5, 1) := by decide +kernel
theorem dX2_enlist_24 : decode mX2_enlist.2.1 24 = .ok (.if_icmp .ge 28, 3) := by decide +kernel
theorem dX2_enlist_27 : decode mX2_enlist.2.1 27 = .ok (.aload_n 0, 1) := by decide +kernel
theorem dX2_enlist_28 : decode mX2_enlist.2.1 28 = .ok (.getfield 18, 3) := by decide +kernel
theorem dX2_enlist_31 : decode mX2_enlist.2.1 31 = .ok (.aload_n 0, 1) := by decide +kernel
theorem dX2_enlist_32 : decode mX2_enlist.2.1 32 = .ok (.getfield 39, 3) := by decide +kernel
theorem dX2_enlist_35 : decode mX2_enlist.2.1 35 = .ok (.iconst 5, 1) := by decide +kernel
theorem dX2_enlist_36 : decode mX2_enlist.2.1 36 = .ok (.imul, 1) := by decide +kernel
theorem dX2_enlist_37 : decode mX2_enlist.2.1 37 = .ok (.iload_n 3, 1) := by decide +kernel
theorem dX2_enlist_38 : decode mX2_enlist.2.1 38 = .ok (.iadd, 1) := by decide +kernel
theorem dX2_enlist_39 : decode mX2_enlist.2.1 39 = .ok (.aload_n 2, 1) := by decide +kernel
theorem dX2_enlist_40 : decode mX2_enlist.2.1 40 = .ok (.getfield 49, 3) := by decide +kernel
theorem dX2_enlist_43 : decode mX2_enlist.2.1 43 = .ok (.iload_n 3, 1) := by decide +kernel
theorem dX2_enlist_44 : decode mX2_enlist.2.1 44 = .ok (.iaload, 1) := by decide +kernel
theorem dX2_enlist_45 : decode mX2_enlist.2.1 45 = .ok (.iastore, 1) := by decide +kernel
theorem dX2_enlist_46 : decode mX2_enlist.2.1 46 = .ok (.iinc 3 1, 3) := by decide +kernel
theorem dX2_enlist_49 : decode mX2_enlist.2.1 49 = .ok (.goto (-27), 3) := by decide +kernel
theorem dX2_enlist_52 : decode mX2_enlist.2.1 52 = .ok (.aload_n 0, 1) := by decide +kernel
theorem dX2_enlist_53 : decode mX2_enlist.2.1 53 = .ok (.getfield 21, 3) := by decide +kernel
theorem dX2_enlist_56 : decode mX2_enlist.2.1 56 = .ok (.aload_n 0, 1) := by decide +kernel
theorem dX2_enlist_57 : decode mX2_enlist.2.1 57 = .ok (.getfield 39, 3) := by decide +kernel
theorem dX2_enlist_60 : decode mX2_enlist.2.1 60 = .ok (.aload_n 2, 1) := by decide +kernel
theorem dX2_enlist_61 : decode mX2_enlist.2.1 61 = .ok (.getfield 52, 3) := by decide +kernel
theorem dX2_enlist_64 : decode mX2_enlist.2.1 64 = .ok (.iastore, 1) := by decide +kernel
theorem dX2_enlist_65 : decode mX2_enlist.2.1 65 = .ok (.aload_n 0, 1) := by decide +kernel
theorem dX2_enlist_66 : decode mX2_enlist.2.1 66 = .ok (.getfield 24, 3) := by decide +kernel
theorem dX2_enlist_69 : decode mX2_enlist.2.1 69 = .ok (.aload_n 0, 1) := by decide +kernel
theorem dX2_enlist_70 : decode mX2_enlist.2.1 70 = .ok (.getfield 39, 3) := by decide +kernel
theorem dX2_enlist_73 : decode mX2_enlist.2.1 73 = .ok (.aload_n 2, 1) := by decide +kernel
theorem dX2_enlist_74 : decode mX2_enlist.2.1 74 = .ok (.getfield 54, 3) := by decide +kernel
theorem dX2_enlist_77 : decode mX2_enlist.2.1 77 = .ok (.iastore, 1) := by decide +kernel
theorem dX2_enlist_78 : decode mX2_enlist.2.1 78 = .ok (.aload_n 0, 1) := by decide +kernel
theorem dX2_enlist_79 : decode mX2_enlist.2.1 79 = .ok (.getfield 27, 3) := by decide +kernel
theorem dX2_enlist_82 : decode mX2_enlist.2.1 82 = .ok (.aload_n 0, 1) := by decide +kernel
theorem dX2_enlist_83 : decode mX2_enlist.2.1 83 = .ok (.getfield 39, 3) := by decide +kernel
theorem dX2_enlist_86 : decode mX2_enlist.2.1 86 = .ok (.aload_n 2, 1) := by decide +kernel
theorem dX2_enlist_87 : decode mX2_enlist.2.1 87 = .ok (.getfield 56, 3) := by decide +kernel
theorem dX2_enlist_90 : decode mX2_enlist.2.1 90 = .ok (.iastore, 1) := by decide +kernel
theorem dX2_enlist_91 : decode mX2_enlist.2.1 91 = .ok (.aload_n 0, 1) := by decide +kernel
theorem dX2_enlist_92 : decode mX2_enlist.2.1 92 = .ok (.dup, 1) := by decide +kernel
theorem dX2_enlist_93 : decode mX2_enlist.2.1 93 = .ok (.getfield 39, 3) := by decide +kernel
theorem dX2_enlist_96 : decode mX2_enlist.2.1 96 = .ok (.iconst 1, 1) := by decide +kernel
theorem dX2_enlist_97 : decode mX2_enlist.2.1 97 = .ok (.iadd, 1) := by decide +kernel
theorem dX2_enlist_98 : decode mX2_enlist.2.1 98 = .ok (.putfield 39, 3) := by decide +kernel
theorem dX2_enlist_101 : decode mX2_enlist.2.1 101 = .ok (.return_, 1) := by decide +kernel
theorem dX2_arrange_0 : decode mX2_arrange.2.1 0 = .ok (.aload_n 0, 1) := by decide +kernel
theorem dX2_arrange_1 : decode mX2_arrange.2.1 1 = .ok (.ldc 59, 2) := by decide +kernel
theorem dX2_arrange_3 : decode mX2_arrange.2.1 3 = .ok (.putfield 43, 3) := by decide +kernel
theorem dX2_arrange_6 : decode mX2_arrange.2.1 6 = .ok (.aload_n 0, 1) := by decide +kernel
theorem dX2_arrange_7 : decode mX2_arrange.2.1 7 = .ok (.ldc 59, 2) := by decide +kernel
theorem dX2_arrange_9 : decode mX2_arrange.2.1 9 = .ok (.putfield 46, 3) := by decide +kernel
theorem dX2_arrange_12 : decode mX2_arrange.2.1 12 = .ok (.aload_n 0, 1) := by decide +kernel
theorem dX2_arrange_13 : decode mX2_arrange.2.1 13 = .ok (.iconst 0, 1) := by decide +kernel
theorem dX2_arrange_14 : decode mX2_arrange.2.1 14 = .ok (.iconst 0, 1) := by decide +kernel
theorem dX2_arrange_15 : decode mX2_arrange.2.1 15 = .ok (.iconst 0, 1) := by decide +kernel
theorem dX2_arrange_16 : decode mX2_arrange.2.1 16 = .ok (.invokevirtual 60, 3) := by decide +kernel
theorem dX2_arrange_19 : decode mX2_arrange.2.1 19 = .ok (.iconst 0, 1) := by decide +kernel
theorem dX2_arrange_20 : decode mX2_arrange.2.1 20 = .ok (.istore_n 1, 1) := by decide +kernel
theorem dX2_arrange_21 : decode mX2_arrange.2.1 21 = .ok (.iload_n 1, 1) := by decide +kernel
theorem dX2_arrange_22 : decode mX2_arrange.2.1 22 = .ok (.aload_n 0, 1) := by decide +kernel
theorem dX2_arrange_23 : decode mX2_arrange.2.1 23 = .ok (.getfield 39, 3) := by decide +kernel
theorem dX2_arrange_26 : decode mX2_arrange.2.1 26 = .ok (.if_icmp .ge 26, 3) := by decide +kernel
theorem dX2_arrange_29 : decode mX2_arrange.2.1 29 = .ok (.aload_n 0, 1) := by decide +kernel
theorem dX2_arrange_30 : decode mX2_arrange.2.1 30 = .ok (.getfield 9, 3) := by decide +kernel
theorem dX2_arrange_33 : decode mX2_arrange.2.1 33 = .ok (.iload_n 1, 1) := by decide +kernel
theorem dX2_arrange_34 : decode mX2_arrange.2.1 34 = .ok (.aload_n 0, 1) := by decide +kernel
theorem dX2_arrange_35 : decode mX2_arrange.2.1 35 = .ok (.iload_n 1, 1) := by decide +kernel
theorem dX2_arrange_36 : decode mX2_arrange.2.1 36 = .ok (.aload_n 0, 1) := by decide +kernel
theorem dX2_arrange_37 : decode mX2_arrange.2.1 37 = .ok (.getfield 33, 3) := by decide +kernel
theorem dX2_arrange_40 : decode mX2_arrange.2.1 40 = .ok (.iload_n 1, 1) := by decide +kernel
theorem dX2_arrange_41 : decode mX2_arrange.2.1 41 = .ok (.iaload, 1) := by decide +kernel
theorem dX2_arrange_42 : decode mX2_arrange.2.1 42 = .ok (.invokevirtual 64, 3) := by decide +kernel
theorem dX2_arrange_45 : decode mX2_arrange.2.1 45 = .ok (.iastore, 1) := by decide +kernel
theorem dX2_arrange_46 : decode mX2_arrange.2.1 46 = .ok (.iinc 1 1, 3) := by decide +kernel
theorem dX2_arrange_49 : decode mX2_arrange.2.1 49 = .ok (.goto (-28), 3) := by decide +kernel
theorem dX2_arrange_52 : decode mX2_arrange.2.1 52 = .ok (.aload_n 0, 1) := by decide +kernel
theorem dX2_arrange_53 : decode mX2_arrange.2.1 53 = .ok (.getfield 43, 3) := by decide +kernel
theorem dX2_arrange_56 : decode mX2_arrange.2.1 56 = .ok (.ireturn, 1) := by decide +kernel
theorem dX2_hasPlace_0 : decode mX2_hasPlace.2.1 0 = .ok (.iload_n 1, 1) := by decide +kernel
theorem dX2_hasPlace_1 : decode mX2_hasPlace.2.1 1 = .ok (.iconst 0, 1) := by decide +kernel
theorem dX2_hasPlace_2 : decode mX2_hasPlace.2.1 2 = .ok (.aload_n 0, 1) := by decide +kernel
theorem dX2_hasPlace_3 : decode mX2_hasPlace.2.1 3 = .ok (.getfield 39, 3) := by decide +kernel
theorem dX2_hasPlace_6 : decode mX2_hasPlace.2.1 6 = .ok (.iconst 1, 1) := by decide +kernel
theorem dX2_hasPlace_7 : decode mX2_hasPlace.2.1 7 = .ok (.isub, 1) := by decide +kernel
theorem dX2_hasPlace_8 : decode mX2_hasPlace.2.1 8 = .ok (.invokestatic 68, 3) := by decide +kernel
theorem dX2_hasPlace_11 : decode mX2_hasPlace.2.1 11 = .ok (.ireturn, 1) := by decide +kernel
theorem dX2_numberAt_0 : decode mX2_numberAt.2.1 0 = .ok (.aload_n 0, 1) := by decide +kernel
theorem dX2_numberAt_1 : decode mX2_numberAt.2.1 1 = .ok (.getfield 15, 3) := by decide +kernel
theorem dX2_numberAt_4 : decode mX2_numberAt.2.1 4 = .ok (.aload_n 0, 1) := by decide +kernel
theorem dX2_numberAt_5 : decode mX2_numberAt.2.1 5 = .ok (.getfield 33, 3) := by decide +kernel
theorem dX2_numberAt_8 : decode mX2_numberAt.2.1 8 = .ok (.iload_n 1, 1) := by decide +kernel
theorem dX2_numberAt_9 : decode mX2_numberAt.2.1 9 = .ok (.iaload, 1) := by decide +kernel
theorem dX2_numberAt_10 : decode mX2_numberAt.2.1 10 = .ok (.iaload, 1) := by decide +kernel
theorem dX2_numberAt_11 : decode mX2_numberAt.2.1 11 = .ok (.ireturn, 1) := by decide +kernel
theorem dX2_placeOf_0 : decode mX2_placeOf.2.1 0 = .ok (.iconst 0, 1) := by decide +kernel
theorem dX2_placeOf_1 : decode mX2_placeOf.2.1 1 = .ok (.istore_n 2, 1) := by decide +kernel
theorem dX2_placeOf_2 : decode mX2_placeOf.2.1 2 = .ok (.iload_n 2, 1) := by decide +kernel
theorem dX2_placeOf_3 : decode mX2_placeOf.2.1 3 = .ok (.aload_n 0, 1) := by decide +kernel
theorem dX2_placeOf_4 : decode mX2_placeOf.2.1 4 = .ok (.getfield 39, 3) := by decide +kernel
theorem dX2_placeOf_7 : decode mX2_placeOf.2.1 7 = .ok (.if_icmp .ge 20, 3) := by decide +kernel
theorem dX2_placeOf_10 : decode mX2_placeOf.2.1 10 = .ok (.aload_n 0, 1) := by decide +kernel
theorem dX2_placeOf_11 : decode mX2_placeOf.2.1 11 = .ok (.iload_n 2, 1) := by decide +kernel
theorem dX2_placeOf_12 : decode mX2_placeOf.2.1 12 = .ok (.invokevirtual 72, 3) := by decide +kernel
theorem dX2_placeOf_15 : decode mX2_placeOf.2.1 15 = .ok (.iload_n 1, 1) := by decide +kernel
theorem dX2_placeOf_16 : decode mX2_placeOf.2.1 16 = .ok (.if_icmp .ne 5, 3) := by decide +kernel
theorem dX2_placeOf_19 : decode mX2_placeOf.2.1 19 = .ok (.iload_n 2, 1) := by decide +kernel
theorem dX2_placeOf_20 : decode mX2_placeOf.2.1 20 = .ok (.ireturn, 1) := by decide +kernel
theorem dX2_placeOf_21 : decode mX2_placeOf.2.1 21 = .ok (.iinc 2 1, 3) := by decide +kernel
theorem dX2_placeOf_24 : decode mX2_placeOf.2.1 24 = .ok (.goto (-22), 3) := by decide +kernel
theorem dX2_placeOf_27 : decode mX2_placeOf.2.1 27 = .ok (.iconst (-1), 1) := by decide +kernel
theorem dX2_placeOf_28 : decode mX2_placeOf.2.1 28 = .ok (.ireturn, 1) := by decide +kernel
theorem dX2_delayedBy_0 : decode mX2_delayedBy.2.1 0 = .ok (.iconst 0, 1) := by decide +kernel
theorem dX2_delayedBy_1 : decode mX2_delayedBy.2.1 1 = .ok (.istore_n 2, 1) := by decide +kernel
theorem dX2_delayedBy_2 : decode mX2_delayedBy.2.1 2 = .ok (.iconst 1, 1) := by decide +kernel
theorem dX2_delayedBy_3 : decode mX2_delayedBy.2.1 3 = .ok (.istore_n 3, 1) := by decide +kernel
theorem dX2_delayedBy_4 : decode mX2_delayedBy.2.1 4 = .ok (.aload_n 0, 1) := by decide +kernel
theorem dX2_delayedBy_5 : decode mX2_delayedBy.2.1 5 = .ok (.iconst 0, 1) := by decide +kernel
theorem dX2_delayedBy_6 : decode mX2_delayedBy.2.1 6 = .ok (.aload_n 0, 1) := by decide +kernel
theorem dX2_delayedBy_7 : decode mX2_delayedBy.2.1 7 = .ok (.getfield 33, 3) := by decide +kernel
theorem dX2_delayedBy_10 : decode mX2_delayedBy.2.1 10 = .ok (.iload_n 1, 1) := by decide +kernel
theorem dX2_delayedBy_11 : decode mX2_delayedBy.2.1 11 = .ok (.iaload, 1) := by decide +kernel
theorem dX2_delayedBy_12 : decode mX2_delayedBy.2.1 12 = .ok (.invokevirtual 64, 3) := by decide +kernel
theorem dX2_delayedBy_15 : decode mX2_delayedBy.2.1 15 = .ok (.pop, 1) := by decide +kernel
theorem dX2_delayedBy_16 : decode mX2_delayedBy.2.1 16 = .ok (.iconst 0, 1) := by decide +kernel
theorem dX2_delayedBy_17 : decode mX2_delayedBy.2.1 17 = .ok (.istore 4, 2) := by decide +kernel
theorem dX2_delayedBy_19 : decode mX2_delayedBy.2.1 19 = .ok (.iload 4, 2) := by decide +kernel
theorem dX2_delayedBy_21 : decode mX2_delayedBy.2.1 21 = .ok (.aload_n 0, 1) := by decide +kernel
theorem dX2_delayedBy_22 : decode mX2_delayedBy.2.1 22 = .ok (.getfield 39, 3) := by decide +kernel
theorem dX2_delayedBy_25 : decode mX2_delayedBy.2.1 25 = .ok (.if_icmp .ge 59, 3) := by decide +kernel
theorem dX2_delayedBy_28 : decode mX2_delayedBy.2.1 28 = .ok (.iload 4, 2) := by decide +kernel
theorem dX2_delayedBy_30 : decode mX2_delayedBy.2.1 30 = .ok (.iload_n 1, 1) := by decide +kernel
theorem dX2_delayedBy_31 : decode mX2_delayedBy.2.1 31 = .ok (.if_icmp .eq 47, 3) := by decide +kernel
theorem dX2_delayedBy_34 : decode mX2_delayedBy.2.1 34 = .ok (.aload_n 0, 1) := by decide +kernel
theorem dX2_delayedBy_35 : decode mX2_delayedBy.2.1 35 = .ok (.iload_n 3, 1) := by decide +kernel
theorem dX2_delayedBy_36 : decode mX2_delayedBy.2.1 36 = .ok (.aload_n 0, 1) := by decide +kernel
theorem dX2_delayedBy_37 : decode mX2_delayedBy.2.1 37 = .ok (.getfield 33, 3) := by decide +kernel
theorem dX2_delayedBy_40 : decode mX2_delayedBy.2.1 40 = .ok (.iload 4, 2) := by decide +kernel
theorem dX2_delayedBy_42 : decode mX2_delayedBy.2.1 42 = .ok (.iaload, 1) := by decide +kernel
theorem dX2_delayedBy_43 : decode mX2_delayedBy.2.1 43 = .ok (.invokevirtual 64, 3) := by decide +kernel
theorem dX2_delayedBy_46 : decode mX2_delayedBy.2.1 46 = .ok (.istore 5, 2) := by decide +kernel
theorem dX2_delayedBy_48 : decode mX2_delayedBy.2.1 48 = .ok (.iinc 3 1, 3) := by decide +kernel
theorem dX2_delayedBy_51 : decode mX2_delayedBy.2.1 51 = .ok (.iload_n 2, 1) := by decide +kernel
theorem dX2_delayedBy_52 : decode mX2_delayedBy.2.1 52 = .ok (.iload 5, 2) := by decide +kernel
theorem dX2_delayedBy_54 : decode mX2_delayedBy.2.1 54 = .ok (.aload_n 0, 1) := by decide +kernel
theorem dX2_delayedBy_55 : decode mX2_delayedBy.2.1 55 = .ok (.getfield 9, 3) := by decide +kernel
theorem dX2_delayedBy_58 : decode mX2_delayedBy.2.1 58 = .ok (.iload 4, 2) := by decide +kernel
theorem dX2_delayedBy_60 : decode mX2_delayedBy.2.1 60 = .ok (.iaload, 1) := by decide +kernel
theorem dX2_delayedBy_61 : decode mX2_delayedBy.2.1 61 = .ok (.if_icmp .le 14, 3) := by decide +kernel
theorem dX2_delayedBy_64 : decode mX2_delayedBy.2.1 64 = .ok (.iconst 1, 1) := by decide +kernel
theorem dX2_delayedBy_65 : decode mX2_delayedBy.2.1 65 = .ok (.aload_n 0, 1) := by decide +kernel
theorem dX2_delayedBy_66 : decode mX2_delayedBy.2.1 66 = .ok (.iload 4, 2) := by decide +kernel
theorem dX2_delayedBy_68 : decode mX2_delayedBy.2.1 68 = .ok (.invokevirtual 72, 3) := by decide +kernel
theorem dX2_delayedBy_71 : decode mX2_delayedBy.2.1 71 = .ok (.ishl, 1) := by decide +kernel
theorem dX2_delayedBy_72 : decode mX2_delayedBy.2.1 72 = .ok (.goto 4, 3) := by decide +kernel
theorem dX2_delayedBy_75 : decode mX2_delayedBy.2.1 75 = .ok (.iconst 0, 1) := by decide +kernel
theorem dX2_delayedBy_76 : decode mX2_delayedBy.2.1 76 = .ok (.ior, 1) := by decide +kernel
theorem dX2_delayedBy_77 : decode mX2_delayedBy.2.1 77 = .ok (.istore_n 2, 1) := by decide +kernel
theorem dX2_delayedBy_78 : decode mX2_delayedBy.2.1 78 = .ok (.iinc 4 1, 3) := by decide +kernel
theorem dX2_delayedBy_81 : decode mX2_delayedBy.2.1 81 = .ok (.goto (-62), 3) := by decide +kernel
theorem dX2_delayedBy_84 : decode mX2_delayedBy.2.1 84 = .ok (.iload_n 2, 1) := by decide +kernel
theorem dX2_delayedBy_85 : decode mX2_delayedBy.2.1 85 = .ok (.ireturn, 1) := by decide +kernel
theorem dX2_search_0 : decode mX2_search.2.1 0 = .ok (.iload_n 1, 1) := by decide +kernel
theorem dX2_search_1 : decode mX2_search.2.1 1 = .ok (.aload_n 0, 1) := by decide +kernel
theorem dX2_search_2 : decode mX2_search.2.1 2 = .ok (.getfield 39, 3) := by decide +kernel
theorem dX2_search_5 : decode mX2_search.2.1 5 = .ok (.if_icmp .lt 4, 3) := by decide +kernel
theorem dX2_search_8 : decode mX2_search.2.1 8 = .ok (.return_, 1) := by decide +kernel
theorem dX2_search_9 : decode mX2_search.2.1 9 = .ok (.iconst 0, 1) := by decide +kernel
theorem dX2_search_10 : decode mX2_search.2.1 10 = .ok (.istore 4, 2) := by decide +kernel
theorem dX2_search_12 : decode mX2_search.2.1 12 = .ok (.iload 4, 2) := by decide +kernel
theorem dX2_search_14 : decode mX2_search.2.1 14 = .ok (.aload_n 0, 1) := by decide +kernel
theorem dX2_search_15 : decode mX2_search.2.1 15 = .ok (.getfield 39, 3) := by decide +kernel
theorem dX2_search_18 : decode mX2_search.2.1 18 = .ok (.if_icmp .ge 131, 3) := by decide +kernel
theorem dX2_search_21 : decode mX2_search.2.1 21 = .ok (.iload_n 2, 1) := by decide +kernel
theorem dX2_search_22 : decode mX2_search.2.1 22 = .ok (.iload 4, 2) := by decide +kernel
theorem dX2_search_24 : decode mX2_search.2.1 24 = .ok (.ishr, 1) := by decide +kernel
theorem dX2_search_25 : decode mX2_search.2.1 25 = .ok (.iconst 1, 1) := by decide +kernel
theorem dX2_search_26 : decode mX2_search.2.1 26 = .ok (.iand, 1) := by decide +kernel
theorem dX2_search_27 : decode mX2_search.2.1 27 = .ok (.iconst 1, 1) := by decide +kernel
theorem dX2_search_28 : decode mX2_search.2.1 28 = .ok (.if_icmp .ne 6, 3) := by decide +kernel
theorem dX2_search_31 : decode mX2_search.2.1 31 = .ok (.goto 112, 3) := by decide +kernel
theorem dX2_search_34 : decode mX2_search.2.1 34 = .ok (.aload_n 0, 1) := by decide +kernel
theorem dX2_search_35 : decode mX2_search.2.1 35 = .ok (.iload_n 1, 1) := by decide +kernel
theorem dX2_search_36 : decode mX2_search.2.1 36 = .ok (.iload 4, 2) := by decide +kernel
theorem dX2_search_38 : decode mX2_search.2.1 38 = .ok (.invokevirtual 64, 3) := by decide +kernel
theorem dX2_search_41 : decode mX2_search.2.1 41 = .ok (.istore 5, 2) := by decide +kernel
theorem dX2_search_43 : decode mX2_search.2.1 43 = .ok (.iload_n 3, 1) := by decide +kernel
theorem dX2_search_44 : decode mX2_search.2.1 44 = .ok (.aload_n 0, 1) := by decide +kernel
theorem dX2_search_45 : decode mX2_search.2.1 45 = .ok (.getfield 27, 3) := by decide +kernel
theorem dX2_search_48 : decode mX2_search.2.1 48 = .ok (.iload 4, 2) := by decide +kernel
theorem dX2_search_50 : decode mX2_search.2.1 50 = .ok (.iaload, 1) := by decide +kernel
theorem dX2_search_51 : decode mX2_search.2.1 51 = .ok (.iconst 0, 1) := by decide +kernel
theorem dX2_search_52 : decode mX2_search.2.1 52 = .ok (.iload 5, 2) := by decide +kernel
theorem dX2_search_54 : decode mX2_search.2.1 54 = .ok (.aload_n 0, 1) := by decide +kernel
theorem dX2_search_55 : decode mX2_search.2.1 55 = .ok (.getfield 24, 3) := by decide +kernel
theorem dX2_search_58 : decode mX2_search.2.1 58 = .ok (.iload 4, 2) := by decide +kernel
theorem dX2_search_60 : decode mX2_search.2.1 60 = .ok (.iaload, 1) := by decide +kernel
theorem dX2_search_61 : decode mX2_search.2.1 61 = .ok (.isub, 1) := by decide +kernel
theorem dX2_search_62 : decode mX2_search.2.1 62 = .ok (.invokestatic 76, 3) := by decide +kernel
theorem dX2_search_65 : decode mX2_search.2.1 65 = .ok (.imul, 1) := by decide +kernel
theorem dX2_search_66 : decode mX2_search.2.1 66 = .ok (.iadd, 1) := by decide +kernel
theorem dX2_search_67 : decode mX2_search.2.1 67 = .ok (.istore 6, 2) := by decide +kernel
theorem dX2_search_69 : decode mX2_search.2.1 69 = .ok (.iload 6, 2) := by decide +kernel
theorem dX2_search_71 : decode mX2_search.2.1 71 = .ok (.aload_n 0, 1) := by decide +kernel
theorem dX2_search_72 : decode mX2_search.2.1 72 = .ok (.getfield 43, 3) := by decide +kernel
theorem dX2_search_75 : decode mX2_search.2.1 75 = .ok (.if_icmp .gt 68, 3) := by decide +kernel
theorem dX2_search_78 : decode mX2_search.2.1 78 = .ok (.iload 6, 2) := by decide +kernel
theorem dX2_search_80 : decode mX2_search.2.1 80 = .ok (.aload_n 0, 1) := by decide +kernel
theorem dX2_search_81 : decode mX2_search.2.1 81 = .ok (.getfield 43, 3) := by decide +kernel
theorem dX2_search_84 : decode mX2_search.2.1 84 = .ok (.if_icmp .ne 15, 3) := by decide +kernel
theorem dX2_search_87 : decode mX2_search.2.1 87 = .ok (.iload 5, 2) := by decide +kernel
theorem dX2_search_89 : decode mX2_search.2.1 89 = .ok (.aload_n 0, 1) := by decide +kernel
theorem dX2_search_90 : decode mX2_search.2.1 90 = .ok (.getfield 46, 3) := by decide +kernel
theorem dX2_search_93 : decode mX2_search.2.1 93 = .ok (.if_icmp .lt 6, 3) := by decide +kernel
theorem dX2_search_96 : decode mX2_search.2.1 96 = .ok (.goto 47, 3) := by decide +kernel
theorem dX2_search_99 : decode mX2_search.2.1 99 = .ok (.aload_n 0, 1) := by decide +kernel
theorem dX2_search_100 : decode mX2_search.2.1 100 = .ok (.getfield 30, 3) := by decide +kernel
theorem dX2_search_103 : decode mX2_search.2.1 103 = .ok (.iload_n 1, 1) := by decide +kernel
theorem dX2_search_104 : decode mX2_search.2.1 104 = .ok (.iload 4, 2) := by decide +kernel
theorem dX2_search_106 : decode mX2_search.2.1 106 = .ok (.iastore, 1) := by decide +kernel
theorem dX2_search_107 : decode mX2_search.2.1 107 = .ok (.iload_n 1, 1) := by decide +kernel
theorem dX2_search_108 : decode mX2_search.2.1 108 = .ok (.iconst 1, 1) := by decide +kernel
theorem dX2_search_109 : decode mX2_search.2.1 109 = .ok (.iadd, 1) := by decide +kernel
theorem dX2_search_110 : decode mX2_search.2.1 110 = .ok (.aload_n 0, 1) := by decide +kernel
theorem dX2_search_111 : decode mX2_search.2.1 111 = .ok (.getfield 39, 3) := by decide +kernel
theorem dX2_search_114 : decode mX2_search.2.1 114 = .ok (.if_icmp .ne 14, 3) := by decide +kernel
theorem dX2_search_117 : decode mX2_search.2.1 117 = .ok (.aload_n 0, 1) := by decide +kernel
theorem dX2_search_118 : decode mX2_search.2.1 118 = .ok (.iload 6, 2) := by decide +kernel
theorem dX2_search_120 : decode mX2_search.2.1 120 = .ok (.iload 5, 2) := by decide +kernel
theorem dX2_search_122 : decode mX2_search.2.1 122 = .ok (.invokevirtual 81, 3) := by decide +kernel
theorem dX2_search_125 : decode mX2_search.2.1 125 = .ok (.goto 18, 3) := by decide +kernel
theorem dX2_search_128 : decode mX2_search.2.1 128 = .ok (.aload_n 0, 1) := by decide +kernel
theorem dX2_search_129 : decode mX2_search.2.1 129 = .ok (.iload_n 1, 1) := by decide +kernel
theorem dX2_search_130 : decode mX2_search.2.1 130 = .ok (.iconst 1, 1) := by decide +kernel
theorem dX2_search_131 : decode mX2_search.2.1 131 = .ok (.iadd, 1) := by decide +kernel
theorem dX2_search_132 : decode mX2_search.2.1 132 = .ok (.iload_n 2, 1) := by decide +kernel
theorem dX2_search_133 : decode mX2_search.2.1 133 = .ok (.iconst 1, 1) := by decide +kernel
theorem dX2_search_134 : decode mX2_search.2.1 134 = .ok (.iload 4, 2) := by decide +kernel
theorem dX2_search_136 : decode mX2_search.2.1 136 = .ok (.ishl, 1) := by decide +kernel
theorem dX2_search_137 : decode mX2_search.2.1 137 = .ok (.ior, 1) := by decide +kernel
theorem dX2_search_138 : decode mX2_search.2.1 138 = .ok (.iload 6, 2) := by decide +kernel
theorem dX2_search_140 : decode mX2_search.2.1 140 = .ok (.invokevirtual 60, 3) := by decide +kernel
theorem dX2_search_143 : decode mX2_search.2.1 143 = .ok (.iinc 4 1, 3) := by decide +kernel
theorem dX2_search_146 : decode mX2_search.2.1 146 = .ok (.goto (-134), 3) := by decide +kernel
theorem dX2_search_149 : decode mX2_search.2.1 149 = .ok (.return_, 1) := by decide +kernel
theorem dX2_keepTrial_0 : decode mX2_keepTrial.2.1 0 = .ok (.aload_n 0, 1) := by decide +kernel
theorem dX2_keepTrial_1 : decode mX2_keepTrial.2.1 1 = .ok (.iload_n 1, 1) := by decide +kernel
theorem dX2_keepTrial_2 : decode mX2_keepTrial.2.1 2 = .ok (.putfield 43, 3) := by decide +kernel
theorem dX2_keepTrial_5 : decode mX2_keepTrial.2.1 5 = .ok (.aload_n 0, 1) := by decide +kernel
theorem dX2_keepTrial_6 : decode mX2_keepTrial.2.1 6 = .ok (.iload_n 2, 1) := by decide +kernel
theorem dX2_keepTrial_7 : decode mX2_keepTrial.2.1 7 = .ok (.putfield 46, 3) := by decide +kernel
theorem dX2_keepTrial_10 : decode mX2_keepTrial.2.1 10 = .ok (.iconst 0, 1) := by decide +kernel
theorem dX2_keepTrial_11 : decode mX2_keepTrial.2.1 11 = .ok (.istore_n 3, 1) := by decide +kernel
theorem dX2_keepTrial_12 : decode mX2_keepTrial.2.1 12 = .ok (.iload_n 3, 1) := by decide +kernel
theorem dX2_keepTrial_13 : decode mX2_keepTrial.2.1 13 = .ok (.aload_n 0, 1) := by decide +kernel
theorem dX2_keepTrial_14 : decode mX2_keepTrial.2.1 14 = .ok (.getfield 39, 3) := by decide +kernel
theorem dX2_keepTrial_17 : decode mX2_keepTrial.2.1 17 = .ok (.if_icmp .ge 21, 3) := by decide +kernel
theorem dX2_keepTrial_20 : decode mX2_keepTrial.2.1 20 = .ok (.aload_n 0, 1) := by decide +kernel
theorem dX2_keepTrial_21 : decode mX2_keepTrial.2.1 21 = .ok (.getfield 33, 3) := by decide +kernel
theorem dX2_keepTrial_24 : decode mX2_keepTrial.2.1 24 = .ok (.iload_n 3, 1) := by decide +kernel
theorem dX2_keepTrial_25 : decode mX2_keepTrial.2.1 25 = .ok (.aload_n 0, 1) := by decide +kernel
theorem dX2_keepTrial_26 : decode mX2_keepTrial.2.1 26 = .ok (.getfield 30, 3) := by decide +kernel
theorem dX2_keepTrial_29 : decode mX2_keepTrial.2.1 29 = .ok (.iload_n 3, 1) := by decide +kernel
theorem dX2_keepTrial_30 : decode mX2_keepTrial.2.1 30 = .ok (.iaload, 1) := by decide +kernel
theorem dX2_keepTrial_31 : decode mX2_keepTrial.2.1 31 = .ok (.iastore, 1) := by decide +kernel
theorem dX2_keepTrial_32 : decode mX2_keepTrial.2.1 32 = .ok (.iinc 3 1, 3) := by decide +kernel
theorem dX2_keepTrial_35 : decode mX2_keepTrial.2.1 35 = .ok (.goto (-23), 3) := by decide +kernel
theorem dX2_keepTrial_38 : decode mX2_keepTrial.2.1 38 = .ok (.return_, 1) := by decide +kernel
theorem dX2_work_0 : decode mX2_work.2.1 0 = .ok (.iconst 0, 1) := by decide +kernel
theorem dX2_work_1 : decode mX2_work.2.1 1 = .ok (.istore_n 3, 1) := by decide +kernel
theorem dX2_work_2 : decode mX2_work.2.1 2 = .ok (.iconst 0, 1) := by decide +kernel
theorem dX2_work_3 : decode mX2_work.2.1 3 = .ok (.istore 4, 2) := by decide +kernel
theorem dX2_work_5 : decode mX2_work.2.1 5 = .ok (.iload 4, 2) := by decide +kernel
theorem dX2_work_7 : decode mX2_work.2.1 7 = .ok (.iconst 5, 1) := by decide +kernel
theorem dX2_work_8 : decode mX2_work.2.1 8 = .ok (.if_icmp .ge 70, 3) := by decide +kernel
theorem dX2_work_11 : decode mX2_work.2.1 11 = .ok (.iload 4, 2) := by decide +kernel
theorem dX2_work_13 : decode mX2_work.2.1 13 = .ok (.iconst 3, 1) := by decide +kernel
theorem dX2_work_14 : decode mX2_work.2.1 14 = .ok (.if_icmp .ne 12, 3) := by decide +kernel
theorem dX2_work_17 : decode mX2_work.2.1 17 = .ok (.iload_n 3, 1) := by decide +kernel
theorem dX2_work_18 : decode mX2_work.2.1 18 = .ok (.aload_n 0, 1) := by decide +kernel
theorem dX2_work_19 : decode mX2_work.2.1 19 = .ok (.getfield 21, 3) := by decide +kernel
theorem dX2_work_22 : decode mX2_work.2.1 22 = .ok (.iload_n 2, 1) := by decide +kernel
theorem dX2_work_23 : decode mX2_work.2.1 23 = .ok (.iaload, 1) := by decide +kernel
theorem dX2_work_24 : decode mX2_work.2.1 24 = .ok (.iadd, 1) := by decide +kernel
theorem dX2_work_25 : decode mX2_work.2.1 25 = .ok (.istore_n 3, 1) := by decide +kernel
theorem dX2_work_26 : decode mX2_work.2.1 26 = .ok (.iload_n 3, 1) := by decide +kernel
theorem dX2_work_27 : decode mX2_work.2.1 27 = .ok (.aload_n 0, 1) := by decide +kernel
theorem dX2_work_28 : decode mX2_work.2.1 28 = .ok (.getfield 36, 3) := by decide +kernel
theorem dX2_work_31 : decode mX2_work.2.1 31 = .ok (.iload_n 1, 1) := by decide +kernel
theorem dX2_work_32 : decode mX2_work.2.1 32 = .ok (.iconst 5, 1) := by decide +kernel
theorem dX2_work_33 : decode mX2_work.2.1 33 = .ok (.imul, 1) := by decide +kernel
theorem dX2_work_34 : decode mX2_work.2.1 34 = .ok (.iload 4, 2) := by decide +kernel
theorem dX2_work_36 : decode mX2_work.2.1 36 = .ok (.iadd, 1) := by decide +kernel
theorem dX2_work_37 : decode mX2_work.2.1 37 = .ok (.iaload, 1) := by decide +kernel
theorem dX2_work_38 : decode mX2_work.2.1 38 = .ok (.invokestatic 76, 3) := by decide +kernel
theorem dX2_work_41 : decode mX2_work.2.1 41 = .ok (.istore 5, 2) := by decide +kernel
theorem dX2_work_43 : decode mX2_work.2.1 43 = .ok (.iload 5, 2) := by decide +kernel
theorem dX2_work_45 : decode mX2_work.2.1 45 = .ok (.aload_n 0, 1) := by decide +kernel
theorem dX2_work_46 : decode mX2_work.2.1 46 = .ok (.getfield 18, 3) := by decide +kernel
theorem dX2_work_49 : decode mX2_work.2.1 49 = .ok (.iload_n 2, 1) := by decide +kernel
theorem dX2_work_50 : decode mX2_work.2.1 50 = .ok (.iconst 5, 1) := by decide +kernel
theorem dX2_work_51 : decode mX2_work.2.1 51 = .ok (.imul, 1) := by decide +kernel
theorem dX2_work_52 : decode mX2_work.2.1 52 = .ok (.iload 4, 2) := by decide +kernel
theorem dX2_work_54 : decode mX2_work.2.1 54 = .ok (.iadd, 1) := by decide +kernel
theorem dX2_work_55 : decode mX2_work.2.1 55 = .ok (.iaload, 1) := by decide +kernel
theorem dX2_work_56 : decode mX2_work.2.1 56 = .ok (.iadd, 1) := by decide +kernel
theorem dX2_work_57 : decode mX2_work.2.1 57 = .ok (.istore_n 3, 1) := by decide +kernel
theorem dX2_work_58 : decode mX2_work.2.1 58 = .ok (.aload_n 0, 1) := by decide +kernel
theorem dX2_work_59 : decode mX2_work.2.1 59 = .ok (.getfield 36, 3) := by decide +kernel
theorem dX2_work_62 : decode mX2_work.2.1 62 = .ok (.iload_n 1, 1) := by decide +kernel
theorem dX2_work_63 : decode mX2_work.2.1 63 = .ok (.iconst 1, 1) := by decide +kernel
theorem dX2_work_64 : decode mX2_work.2.1 64 = .ok (.iadd, 1) := by decide +kernel
theorem dX2_work_65 : decode mX2_work.2.1 65 = .ok (.iconst 5, 1) := by decide +kernel
theorem dX2_work_66 : decode mX2_work.2.1 66 = .ok (.imul, 1) := by decide +kernel
theorem dX2_work_67 : decode mX2_work.2.1 67 = .ok (.iload 4, 2) := by decide +kernel
theorem dX2_work_69 : decode mX2_work.2.1 69 = .ok (.iadd, 1) := by decide +kernel
theorem dX2_work_70 : decode mX2_work.2.1 70 = .ok (.iload_n 3, 1) := by decide +kernel
theorem dX2_work_71 : decode mX2_work.2.1 71 = .ok (.iastore, 1) := by decide +kernel
theorem dX2_work_72 : decode mX2_work.2.1 72 = .ok (.iinc 4 1, 3) := by decide +kernel
theorem dX2_work_75 : decode mX2_work.2.1 75 = .ok (.goto (-70), 3) := by decide +kernel
theorem dX2_work_78 : decode mX2_work.2.1 78 = .ok (.iload_n 3, 1) := by decide +kernel
theorem dX2_work_79 : decode mX2_work.2.1 79 = .ok (.ireturn, 1) := by decide +kernel

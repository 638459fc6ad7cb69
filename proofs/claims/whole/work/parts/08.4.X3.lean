theorem dX3_init_0 : decode mX3_init.2.1 0 = .ok (.aload_n 0, 1) := by decide +kernel
theorem dX3_init_1 : decode mX3_init.2.1 1 = .ok (.invokespecial 3, 3) := by decide +kernel
theorem dX3_init_4 : decode mX3_init.2.1 4 = .ok (.aload_n 0, 1) := by decide +kernel
theorem dX3_init_5 : decode mX3_init.2.1 5 = .ok (.iconst 0, 1) := by decide +kernel
theorem dX3_init_6 : decode mX3_init.2.1 6 = .ok (.putfield 9, 3) := by decide +kernel
theorem dX3_init_9 : decode mX3_init.2.1 9 = .ok (.aload_n 0, 1) := by decide +kernel
theorem dX3_init_10 : decode mX3_init.2.1 10 = .ok (.iconst 0, 1) := by decide +kernel
theorem dX3_init_11 : decode mX3_init.2.1 11 = .ok (.putfield 15, 3) := by decide +kernel
theorem dX3_init_14 : decode mX3_init.2.1 14 = .ok (.aload_n 0, 1) := by decide +kernel
theorem dX3_init_15 : decode mX3_init.2.1 15 = .ok (.iload_n 1, 1) := by decide +kernel
theorem dX3_init_16 : decode mX3_init.2.1 16 = .ok (.putfield 18, 3) := by decide +kernel
theorem dX3_init_19 : decode mX3_init.2.1 19 = .ok (.aload_n 0, 1) := by decide +kernel
theorem dX3_init_20 : decode mX3_init.2.1 20 = .ok (.iload_n 2, 1) := by decide +kernel
theorem dX3_init_21 : decode mX3_init.2.1 21 = .ok (.putfield 21, 3) := by decide +kernel
theorem dX3_init_24 : decode mX3_init.2.1 24 = .ok (.aload_n 0, 1) := by decide +kernel
theorem dX3_init_25 : decode mX3_init.2.1 25 = .ok (.iload_n 3, 1) := by decide +kernel
theorem dX3_init_26 : decode mX3_init.2.1 26 = .ok (.putfield 24, 3) := by decide +kernel
theorem dX3_init_29 : decode mX3_init.2.1 29 = .ok (.aload_n 0, 1) := by decide +kernel
theorem dX3_init_30 : decode mX3_init.2.1 30 = .ok (.iload_n 1, 1) := by decide +kernel
theorem dX3_init_31 : decode mX3_init.2.1 31 = .ok (.iload_n 2, 1) := by decide +kernel
theorem dX3_init_32 : decode mX3_init.2.1 32 = .ok (.imul, 1) := by decide +kernel
theorem dX3_init_33 : decode mX3_init.2.1 33 = .ok (.newarray .int, 2) := by decide +kernel
theorem dX3_init_35 : decode mX3_init.2.1 35 = .ok (.putfield 27, 3) := by decide +kernel
theorem dX3_init_38 : decode mX3_init.2.1 38 = .ok (.return_, 1) := by decide +kernel
theorem dX3_hasPlace_0 : decode mX3_hasPlace.2.1 0 = .ok (.iload_n 1, 1) := by decide +kernel
theorem dX3_hasPlace_1 : decode mX3_hasPlace.2.1 1 = .ok (.iconst 0, 1) := by decide +kernel
theorem dX3_hasPlace_2 : decode mX3_hasPlace.2.1 2 = .ok (.aload_n 0, 1) := by decide +kernel
theorem dX3_hasPlace_3 : decode mX3_hasPlace.2.1 3 = .ok (.getfield 18, 3) := by decide +kernel
theorem dX3_hasPlace_6 : decode mX3_hasPlace.2.1 6 = .ok (.iconst 1, 1) := by decide +kernel
theorem dX3_hasPlace_7 : decode mX3_hasPlace.2.1 7 = .ok (.isub, 1) := by decide +kernel
theorem dX3_hasPlace_8 : decode mX3_hasPlace.2.1 8 = .ok (.invokestatic 31, 3) := by decide +kernel
theorem dX3_hasPlace_11 : decode mX3_hasPlace.2.1 11 = .ok (.ifCond .eq 21, 3) := by decide +kernel
theorem dX3_hasPlace_14 : decode mX3_hasPlace.2.1 14 = .ok (.iload_n 2, 1) := by decide +kernel
theorem dX3_hasPlace_15 : decode mX3_hasPlace.2.1 15 = .ok (.iconst 0, 1) := by decide +kernel
theorem dX3_hasPlace_16 : decode mX3_hasPlace.2.1 16 = .ok (.aload_n 0, 1) := by decide +kernel
theorem dX3_hasPlace_17 : decode mX3_hasPlace.2.1 17 = .ok (.getfield 21, 3) := by decide +kernel
theorem dX3_hasPlace_20 : decode mX3_hasPlace.2.1 20 = .ok (.iconst 1, 1) := by decide +kernel
theorem dX3_hasPlace_21 : decode mX3_hasPlace.2.1 21 = .ok (.isub, 1) := by decide +kernel
theorem dX3_hasPlace_22 : decode mX3_hasPlace.2.1 22 = .ok (.invokestatic 31, 3) := by decide +kernel
theorem dX3_hasPlace_25 : decode mX3_hasPlace.2.1 25 = .ok (.ifCond .eq 7, 3) := by decide +kernel
theorem dX3_hasPlace_28 : decode mX3_hasPlace.2.1 28 = .ok (.iconst 1, 1) := by decide +kernel
theorem dX3_hasPlace_29 : decode mX3_hasPlace.2.1 29 = .ok (.goto 4, 3) := by decide +kernel
theorem dX3_hasPlace_32 : decode mX3_hasPlace.2.1 32 = .ok (.iconst 0, 1) := by decide +kernel
theorem dX3_hasPlace_33 : decode mX3_hasPlace.2.1 33 = .ok (.ireturn, 1) := by decide +kernel
theorem dX3_stateOf_0 : decode mX3_stateOf.2.1 0 = .ok (.aload_n 0, 1) := by decide +kernel
theorem dX3_stateOf_1 : decode mX3_stateOf.2.1 1 = .ok (.getfield 27, 3) := by decide +kernel
theorem dX3_stateOf_4 : decode mX3_stateOf.2.1 4 = .ok (.iload_n 2, 1) := by decide +kernel
theorem dX3_stateOf_5 : decode mX3_stateOf.2.1 5 = .ok (.aload_n 0, 1) := by decide +kernel
theorem dX3_stateOf_6 : decode mX3_stateOf.2.1 6 = .ok (.getfield 18, 3) := by decide +kernel
theorem dX3_stateOf_9 : decode mX3_stateOf.2.1 9 = .ok (.imul, 1) := by decide +kernel
theorem dX3_stateOf_10 : decode mX3_stateOf.2.1 10 = .ok (.iload_n 1, 1) := by decide +kernel
theorem dX3_stateOf_11 : decode mX3_stateOf.2.1 11 = .ok (.iadd, 1) := by decide +kernel
theorem dX3_stateOf_12 : decode mX3_stateOf.2.1 12 = .ok (.iaload, 1) := by decide +kernel
theorem dX3_stateOf_13 : decode mX3_stateOf.2.1 13 = .ok (.ireturn, 1) := by decide +kernel
theorem dX3_fill_0 : decode mX3_fill.2.1 0 = .ok (.iload_n 2, 1) := by decide +kernel
theorem dX3_fill_1 : decode mX3_fill.2.1 1 = .ok (.istore 6, 2) := by decide +kernel
theorem dX3_fill_3 : decode mX3_fill.2.1 3 = .ok (.iload 6, 2) := by decide +kernel
theorem dX3_fill_5 : decode mX3_fill.2.1 5 = .ok (.iload_n 2, 1) := by decide +kernel
theorem dX3_fill_6 : decode mX3_fill.2.1 6 = .ok (.iload 4, 2) := by decide +kernel
theorem dX3_fill_8 : decode mX3_fill.2.1 8 = .ok (.iadd, 1) := by decide +kernel
theorem dX3_fill_9 : decode mX3_fill.2.1 9 = .ok (.if_icmp .ge 43, 3) := by decide +kernel
theorem dX3_fill_12 : decode mX3_fill.2.1 12 = .ok (.iload_n 1, 1) := by decide +kernel
theorem dX3_fill_13 : decode mX3_fill.2.1 13 = .ok (.istore 7, 2) := by decide +kernel
theorem dX3_fill_15 : decode mX3_fill.2.1 15 = .ok (.iload 7, 2) := by decide +kernel
theorem dX3_fill_17 : decode mX3_fill.2.1 17 = .ok (.iload_n 1, 1) := by decide +kernel
theorem dX3_fill_18 : decode mX3_fill.2.1 18 = .ok (.iload_n 3, 1) := by decide +kernel
theorem dX3_fill_19 : decode mX3_fill.2.1 19 = .ok (.iadd, 1) := by decide +kernel
theorem dX3_fill_20 : decode mX3_fill.2.1 20 = .ok (.if_icmp .ge 26, 3) := by decide +kernel
theorem dX3_fill_23 : decode mX3_fill.2.1 23 = .ok (.aload_n 0, 1) := by decide +kernel
theorem dX3_fill_24 : decode mX3_fill.2.1 24 = .ok (.getfield 27, 3) := by decide +kernel
theorem dX3_fill_27 : decode mX3_fill.2.1 27 = .ok (.iload 6, 2) := by decide +kernel
theorem dX3_fill_29 : decode mX3_fill.2.1 29 = .ok (.aload_n 0, 1) := by decide +kernel
theorem dX3_fill_30 : decode mX3_fill.2.1 30 = .ok (.getfield 18, 3) := by decide +kernel
theorem dX3_fill_33 : decode mX3_fill.2.1 33 = .ok (.imul, 1) := by decide +kernel
theorem dX3_fill_34 : decode mX3_fill.2.1 34 = .ok (.iload 7, 2) := by decide +kernel
theorem dX3_fill_36 : decode mX3_fill.2.1 36 = .ok (.iadd, 1) := by decide +kernel
theorem dX3_fill_37 : decode mX3_fill.2.1 37 = .ok (.iload 5, 2) := by decide +kernel
theorem dX3_fill_39 : decode mX3_fill.2.1 39 = .ok (.iastore, 1) := by decide +kernel
theorem dX3_fill_40 : decode mX3_fill.2.1 40 = .ok (.iinc 7 1, 3) := by decide +kernel
theorem dX3_fill_43 : decode mX3_fill.2.1 43 = .ok (.goto (-28), 3) := by decide +kernel
theorem dX3_fill_46 : decode mX3_fill.2.1 46 = .ok (.iinc 6 1, 3) := by decide +kernel
theorem dX3_fill_49 : decode mX3_fill.2.1 49 = .ok (.goto (-46), 3) := by decide +kernel
theorem dX3_fill_52 : decode mX3_fill.2.1 52 = .ok (.return_, 1) := by decide +kernel
theorem dX3_cutCover_0 : decode mX3_cutCover.2.1 0 = .ok (.iconst 0, 1) := by decide +kernel
theorem dX3_cutCover_1 : decode mX3_cutCover.2.1 1 = .ok (.istore_n 3, 1) := by decide +kernel
theorem dX3_cutCover_2 : decode mX3_cutCover.2.1 2 = .ok (.iload_n 3, 1) := by decide +kernel
theorem dX3_cutCover_3 : decode mX3_cutCover.2.1 3 = .ok (.aload_n 0, 1) := by decide +kernel
theorem dX3_cutCover_4 : decode mX3_cutCover.2.1 4 = .ok (.getfield 21, 3) := by decide +kernel
theorem dX3_cutCover_7 : decode mX3_cutCover.2.1 7 = .ok (.if_icmp .ge 71, 3) := by decide +kernel
theorem dX3_cutCover_10 : decode mX3_cutCover.2.1 10 = .ok (.iconst 0, 1) := by decide +kernel
theorem dX3_cutCover_11 : decode mX3_cutCover.2.1 11 = .ok (.istore 4, 2) := by decide +kernel
theorem dX3_cutCover_13 : decode mX3_cutCover.2.1 13 = .ok (.iload 4, 2) := by decide +kernel
theorem dX3_cutCover_15 : decode mX3_cutCover.2.1 15 = .ok (.aload_n 0, 1) := by decide +kernel
theorem dX3_cutCover_16 : decode mX3_cutCover.2.1 16 = .ok (.getfield 18, 3) := by decide +kernel
theorem dX3_cutCover_19 : decode mX3_cutCover.2.1 19 = .ok (.if_icmp .ge 53, 3) := by decide +kernel
theorem dX3_cutCover_22 : decode mX3_cutCover.2.1 22 = .ok (.aload_n 0, 1) := by decide +kernel
theorem dX3_cutCover_23 : decode mX3_cutCover.2.1 23 = .ok (.iload 4, 2) := by decide +kernel
theorem dX3_cutCover_25 : decode mX3_cutCover.2.1 25 = .ok (.iload_n 3, 1) := by decide +kernel
theorem dX3_cutCover_26 : decode mX3_cutCover.2.1 26 = .ok (.iload_n 1, 1) := by decide +kernel
theorem dX3_cutCover_27 : decode mX3_cutCover.2.1 27 = .ok (.iload_n 2, 1) := by decide +kernel
theorem dX3_cutCover_28 : decode mX3_cutCover.2.1 28 = .ok (.invokevirtual 35, 3) := by decide +kernel
theorem dX3_cutCover_31 : decode mX3_cutCover.2.1 31 = .ok (.ifCond .eq 11, 3) := by decide +kernel
theorem dX3_cutCover_34 : decode mX3_cutCover.2.1 34 = .ok (.iload 4, 2) := by decide +kernel
theorem dX3_cutCover_36 : decode mX3_cutCover.2.1 36 = .ok (.bipush 100, 2) := by decide +kernel
theorem dX3_cutCover_38 : decode mX3_cutCover.2.1 38 = .ok (.iload_n 3, 1) := by decide +kernel
theorem dX3_cutCover_39 : decode mX3_cutCover.2.1 39 = .ok (.imul, 1) := by decide +kernel
theorem dX3_cutCover_40 : decode mX3_cutCover.2.1 40 = .ok (.iadd, 1) := by decide +kernel
theorem dX3_cutCover_41 : decode mX3_cutCover.2.1 41 = .ok (.ireturn, 1) := by decide +kernel
theorem dX3_cutCover_42 : decode mX3_cutCover.2.1 42 = .ok (.aload_n 0, 1) := by decide +kernel
theorem dX3_cutCover_43 : decode mX3_cutCover.2.1 43 = .ok (.iload 4, 2) := by decide +kernel
theorem dX3_cutCover_45 : decode mX3_cutCover.2.1 45 = .ok (.iload_n 3, 1) := by decide +kernel
theorem dX3_cutCover_46 : decode mX3_cutCover.2.1 46 = .ok (.iload_n 2, 1) := by decide +kernel
theorem dX3_cutCover_47 : decode mX3_cutCover.2.1 47 = .ok (.iload_n 1, 1) := by decide +kernel
theorem dX3_cutCover_48 : decode mX3_cutCover.2.1 48 = .ok (.invokevirtual 35, 3) := by decide +kernel
theorem dX3_cutCover_51 : decode mX3_cutCover.2.1 51 = .ok (.ifCond .eq 15, 3) := by decide +kernel
theorem dX3_cutCover_54 : decode mX3_cutCover.2.1 54 = .ok (.iload 4, 2) := by decide +kernel
theorem dX3_cutCover_56 : decode mX3_cutCover.2.1 56 = .ok (.bipush 100, 2) := by decide +kernel
theorem dX3_cutCover_58 : decode mX3_cutCover.2.1 58 = .ok (.iload_n 3, 1) := by decide +kernel
theorem dX3_cutCover_59 : decode mX3_cutCover.2.1 59 = .ok (.imul, 1) := by decide +kernel
theorem dX3_cutCover_60 : decode mX3_cutCover.2.1 60 = .ok (.iadd, 1) := by decide +kernel
theorem dX3_cutCover_61 : decode mX3_cutCover.2.1 61 = .ok (.sipush 10000, 3) := by decide +kernel
theorem dX3_cutCover_64 : decode mX3_cutCover.2.1 64 = .ok (.iadd, 1) := by decide +kernel
theorem dX3_cutCover_65 : decode mX3_cutCover.2.1 65 = .ok (.ireturn, 1) := by decide +kernel
theorem dX3_cutCover_66 : decode mX3_cutCover.2.1 66 = .ok (.iinc 4 1, 3) := by decide +kernel
theorem dX3_cutCover_69 : decode mX3_cutCover.2.1 69 = .ok (.goto (-56), 3) := by decide +kernel
theorem dX3_cutCover_72 : decode mX3_cutCover.2.1 72 = .ok (.iinc 3 1, 3) := by decide +kernel
theorem dX3_cutCover_75 : decode mX3_cutCover.2.1 75 = .ok (.goto (-73), 3) := by decide +kernel
theorem dX3_cutCover_78 : decode mX3_cutCover.2.1 78 = .ok (.iconst (-1), 1) := by decide +kernel
theorem dX3_cutCover_79 : decode mX3_cutCover.2.1 79 = .ok (.ireturn, 1) := by decide +kernel
theorem dX3_cutAlike_0 : decode mX3_cutAlike.2.1 0 = .ok (.aload_n 0, 1) := by decide +kernel
theorem dX3_cutAlike_1 : decode mX3_cutAlike.2.1 1 = .ok (.aload_n 0, 1) := by decide +kernel
theorem dX3_cutAlike_2 : decode mX3_cutAlike.2.1 2 = .ok (.getfield 9, 3) := by decide +kernel
theorem dX3_cutAlike_5 : decode mX3_cutAlike.2.1 5 = .ok (.putfield 15, 3) := by decide +kernel
theorem dX3_cutAlike_8 : decode mX3_cutAlike.2.1 8 = .ok (.iconst 0, 1) := by decide +kernel
theorem dX3_cutAlike_9 : decode mX3_cutAlike.2.1 9 = .ok (.istore 4, 2) := by decide +kernel
theorem dX3_cutAlike_11 : decode mX3_cutAlike.2.1 11 = .ok (.iload 4, 2) := by decide +kernel
theorem dX3_cutAlike_13 : decode mX3_cutAlike.2.1 13 = .ok (.iload_n 3, 1) := by decide +kernel
theorem dX3_cutAlike_14 : decode mX3_cutAlike.2.1 14 = .ok (.if_icmp .ge 22, 3) := by decide +kernel
theorem dX3_cutAlike_17 : decode mX3_cutAlike.2.1 17 = .ok (.aload_n 0, 1) := by decide +kernel
theorem dX3_cutAlike_18 : decode mX3_cutAlike.2.1 18 = .ok (.iload_n 1, 1) := by decide +kernel
theorem dX3_cutAlike_19 : decode mX3_cutAlike.2.1 19 = .ok (.iload_n 2, 1) := by decide +kernel
theorem dX3_cutAlike_20 : decode mX3_cutAlike.2.1 20 = .ok (.invokevirtual 39, 3) := by decide +kernel
theorem dX3_cutAlike_23 : decode mX3_cutAlike.2.1 23 = .ok (.iconst (-1), 1) := by decide +kernel
theorem dX3_cutAlike_24 : decode mX3_cutAlike.2.1 24 = .ok (.if_icmp .ne 6, 3) := by decide +kernel
theorem dX3_cutAlike_27 : decode mX3_cutAlike.2.1 27 = .ok (.iload 4, 2) := by decide +kernel
theorem dX3_cutAlike_29 : decode mX3_cutAlike.2.1 29 = .ok (.ireturn, 1) := by decide +kernel
theorem dX3_cutAlike_30 : decode mX3_cutAlike.2.1 30 = .ok (.iinc 4 1, 3) := by decide +kernel
theorem dX3_cutAlike_33 : decode mX3_cutAlike.2.1 33 = .ok (.goto (-22), 3) := by decide +kernel
theorem dX3_cutAlike_36 : decode mX3_cutAlike.2.1 36 = .ok (.iload_n 3, 1) := by decide +kernel
theorem dX3_cutAlike_37 : decode mX3_cutAlike.2.1 37 = .ok (.ireturn, 1) := by decide +kernel
theorem dX3_takeBackAlike_0 : decode mX3_takeBackAlike.2.1 0 = .ok (.iconst 0, 1) := by decide +kernel
theorem dX3_takeBackAlike_1 : decode mX3_takeBackAlike.2.1 1 = .ok (.istore_n 1, 1) := by decide +kernel
theorem dX3_takeBackAlike_2 : decode mX3_takeBackAlike.2.1 2 = .ok (.iload_n 1, 1) := by decide +kernel
theorem dX3_takeBackAlike_3 : decode mX3_takeBackAlike.2.1 3 = .ok (.aload_n 0, 1) := by decide +kernel
theorem dX3_takeBackAlike_4 : decode mX3_takeBackAlike.2.1 4 = .ok (.getfield 27, 3) := by decide +kernel
theorem dX3_takeBackAlike_7 : decode mX3_takeBackAlike.2.1 7 = .ok (.arraylength, 1) := by decide +kernel
theorem dX3_takeBackAlike_8 : decode mX3_takeBackAlike.2.1 8 = .ok (.if_icmp .ge 31, 3) := by decide +kernel
theorem dX3_takeBackAlike_11 : decode mX3_takeBackAlike.2.1 11 = .ok (.aload_n 0, 1) := by decide +kernel
theorem dX3_takeBackAlike_12 : decode mX3_takeBackAlike.2.1 12 = .ok (.getfield 27, 3) := by decide +kernel
theorem dX3_takeBackAlike_15 : decode mX3_takeBackAlike.2.1 15 = .ok (.iload_n 1, 1) := by decide +kernel
theorem dX3_takeBackAlike_16 : decode mX3_takeBackAlike.2.1 16 = .ok (.iaload, 1) := by decide +kernel
theorem dX3_takeBackAlike_17 : decode mX3_takeBackAlike.2.1 17 = .ok (.iconst 2, 1) := by decide +kernel
theorem dX3_takeBackAlike_18 : decode mX3_takeBackAlike.2.1 18 = .ok (.aload_n 0, 1) := by decide +kernel
theorem dX3_takeBackAlike_19 : decode mX3_takeBackAlike.2.1 19 = .ok (.getfield 15, 3) := by decide +kernel
theorem dX3_takeBackAlike_22 : decode mX3_takeBackAlike.2.1 22 = .ok (.iadd, 1) := by decide +kernel
theorem dX3_takeBackAlike_23 : decode mX3_takeBackAlike.2.1 23 = .ok (.if_icmp .lt 10, 3) := by decide +kernel
theorem dX3_takeBackAlike_26 : decode mX3_takeBackAlike.2.1 26 = .ok (.aload_n 0, 1) := by decide +kernel
theorem dX3_takeBackAlike_27 : decode mX3_takeBackAlike.2.1 27 = .ok (.getfield 27, 3) := by decide +kernel
theorem dX3_takeBackAlike_30 : decode mX3_takeBackAlike.2.1 30 = .ok (.iload_n 1, 1) := by decide +kernel
theorem dX3_takeBackAlike_31 : decode mX3_takeBackAlike.2.1 31 = .ok (.iconst 0, 1) := by decide +kernel
theorem dX3_takeBackAlike_32 : decode mX3_takeBackAlike.2.1 32 = .ok (.iastore, 1) := by decide +kernel
theorem dX3_takeBackAlike_33 : decode mX3_takeBackAlike.2.1 33 = .ok (.iinc 1 1, 3) := by decide +kernel
theorem dX3_takeBackAlike_36 : decode mX3_takeBackAlike.2.1 36 = .ok (.goto (-34), 3) := by decide +kernel
theorem dX3_takeBackAlike_39 : decode mX3_takeBackAlike.2.1 39 = .ok (.aload_n 0, 1) := by decide +kernel
theorem dX3_takeBackAlike_40 : decode mX3_takeBackAlike.2.1 40 = .ok (.aload_n 0, 1) := by decide +kernel
theorem dX3_takeBackAlike_41 : decode mX3_takeBackAlike.2.1 41 = .ok (.getfield 15, 3) := by decide +kernel
theorem dX3_takeBackAlike_44 : decode mX3_takeBackAlike.2.1 44 = .ok (.putfield 9, 3) := by decide +kernel
theorem dX3_takeBackAlike_47 : decode mX3_takeBackAlike.2.1 47 = .ok (.return_, 1) := by decide +kernel
theorem dX3_cutHere_0 : decode mX3_cutHere.2.1 0 = .ok (.aload_n 0, 1) := by decide +kernel
theorem dX3_cutHere_1 : decode mX3_cutHere.2.1 1 = .ok (.iload_n 1, 1) := by decide +kernel
theorem dX3_cutHere_2 : decode mX3_cutHere.2.1 2 = .ok (.iload_n 2, 1) := by decide +kernel
theorem dX3_cutHere_3 : decode mX3_cutHere.2.1 3 = .ok (.iload_n 3, 1) := by decide +kernel
theorem dX3_cutHere_4 : decode mX3_cutHere.2.1 4 = .ok (.iload 4, 2) := by decide +kernel
theorem dX3_cutHere_6 : decode mX3_cutHere.2.1 6 = .ok (.invokevirtual 43, 3) := by decide +kernel
theorem dX3_cutHere_9 : decode mX3_cutHere.2.1 9 = .ok (.ifCond .ne 5, 3) := by decide +kernel
theorem dX3_cutHere_12 : decode mX3_cutHere.2.1 12 = .ok (.iconst 0, 1) := by decide +kernel
theorem dX3_cutHere_13 : decode mX3_cutHere.2.1 13 = .ok (.ireturn, 1) := by decide +kernel
theorem dX3_cutHere_14 : decode mX3_cutHere.2.1 14 = .ok (.aload_n 0, 1) := by decide +kernel
theorem dX3_cutHere_15 : decode mX3_cutHere.2.1 15 = .ok (.iload_n 1, 1) := by decide +kernel
theorem dX3_cutHere_16 : decode mX3_cutHere.2.1 16 = .ok (.iload_n 2, 1) := by decide +kernel
theorem dX3_cutHere_17 : decode mX3_cutHere.2.1 17 = .ok (.iload_n 3, 1) := by decide +kernel
theorem dX3_cutHere_18 : decode mX3_cutHere.2.1 18 = .ok (.iload 4, 2) := by decide +kernel
theorem dX3_cutHere_20 : decode mX3_cutHere.2.1 20 = .ok (.iconst 2, 1) := by decide +kernel
theorem dX3_cutHere_21 : decode mX3_cutHere.2.1 21 = .ok (.aload_n 0, 1) := by decide +kernel
theorem dX3_cutHere_22 : decode mX3_cutHere.2.1 22 = .ok (.getfield 9, 3) := by decide +kernel
theorem dX3_cutHere_25 : decode mX3_cutHere.2.1 25 = .ok (.iadd, 1) := by decide +kernel
theorem dX3_cutHere_26 : decode mX3_cutHere.2.1 26 = .ok (.invokevirtual 46, 3) := by decide +kernel
theorem dX3_cutHere_29 : decode mX3_cutHere.2.1 29 = .ok (.aload_n 0, 1) := by decide +kernel
theorem dX3_cutHere_30 : decode mX3_cutHere.2.1 30 = .ok (.dup, 1) := by decide +kernel
theorem dX3_cutHere_31 : decode mX3_cutHere.2.1 31 = .ok (.getfield 9, 3) := by decide +kernel
theorem dX3_cutHere_34 : decode mX3_cutHere.2.1 34 = .ok (.iconst 1, 1) := by decide +kernel
theorem dX3_cutHere_35 : decode mX3_cutHere.2.1 35 = .ok (.iadd, 1) := by decide +kernel
theorem dX3_cutHere_36 : decode mX3_cutHere.2.1 36 = .ok (.putfield 9, 3) := by decide +kernel
theorem dX3_cutHere_39 : decode mX3_cutHere.2.1 39 = .ok (.iconst 1, 1) := by decide +kernel
theorem dX3_cutHere_40 : decode mX3_cutHere.2.1 40 = .ok (.ireturn, 1) := by decide +kernel
theorem dX3_isFree_0 : decode mX3_isFree.2.1 0 = .ok (.iload_n 1, 1) := by decide +kernel
theorem dX3_isFree_1 : decode mX3_isFree.2.1 1 = .ok (.iload_n 3, 1) := by decide +kernel
theorem dX3_isFree_2 : decode mX3_isFree.2.1 2 = .ok (.iadd, 1) := by decide +kernel
theorem dX3_isFree_3 : decode mX3_isFree.2.1 3 = .ok (.aload_n 0, 1) := by decide +kernel
theorem dX3_isFree_4 : decode mX3_isFree.2.1 4 = .ok (.getfield 18, 3) := by decide +kernel
theorem dX3_isFree_7 : decode mX3_isFree.2.1 7 = .ok (.if_icmp .gt 14, 3) := by decide +kernel
theorem dX3_isFree_10 : decode mX3_isFree.2.1 10 = .ok (.iload_n 2, 1) := by decide +kernel
theorem dX3_isFree_11 : decode mX3_isFree.2.1 11 = .ok (.iload 4, 2) := by decide +kernel
theorem dX3_isFree_13 : decode mX3_isFree.2.1 13 = .ok (.iadd, 1) := by decide +kernel
theorem dX3_isFree_14 : decode mX3_isFree.2.1 14 = .ok (.aload_n 0, 1) := by decide +kernel
theorem dX3_isFree_15 : decode mX3_isFree.2.1 15 = .ok (.getfield 21, 3) := by decide +kernel
theorem dX3_isFree_18 : decode mX3_isFree.2.1 18 = .ok (.if_icmp .le 5, 3) := by decide +kernel
theorem dX3_isFree_21 : decode mX3_isFree.2.1 21 = .ok (.iconst 0, 1) := by decide +kernel
theorem dX3_isFree_22 : decode mX3_isFree.2.1 22 = .ok (.ireturn, 1) := by decide +kernel
theorem dX3_isFree_23 : decode mX3_isFree.2.1 23 = .ok (.iload_n 2, 1) := by decide +kernel
theorem dX3_isFree_24 : decode mX3_isFree.2.1 24 = .ok (.istore 5, 2) := by decide +kernel
theorem dX3_isFree_26 : decode mX3_isFree.2.1 26 = .ok (.iload 5, 2) := by decide +kernel
theorem dX3_isFree_28 : decode mX3_isFree.2.1 28 = .ok (.iload_n 2, 1) := by decide +kernel
theorem dX3_isFree_29 : decode mX3_isFree.2.1 29 = .ok (.iload 4, 2) := by decide +kernel
theorem dX3_isFree_31 : decode mX3_isFree.2.1 31 = .ok (.iadd, 1) := by decide +kernel
theorem dX3_isFree_32 : decode mX3_isFree.2.1 32 = .ok (.if_icmp .ge 46, 3) := by decide +kernel
theorem dX3_isFree_35 : decode mX3_isFree.2.1 35 = .ok (.iload_n 1, 1) := by decide +kernel
theorem dX3_isFree_36 : decode mX3_isFree.2.1 36 = .ok (.istore 6, 2) := by decide +kernel
theorem dX3_isFree_38 : decode mX3_isFree.2.1 38 = .ok (.iload 6, 2) := by decide +kernel
theorem dX3_isFree_40 : decode mX3_isFree.2.1 40 = .ok (.iload_n 1, 1) := by decide +kernel
theorem dX3_isFree_41 : decode mX3_isFree.2.1 41 = .ok (.iload_n 3, 1) := by decide +kernel
theorem dX3_isFree_42 : decode mX3_isFree.2.1 42 = .ok (.iadd, 1) := by decide +kernel
theorem dX3_isFree_43 : decode mX3_isFree.2.1 43 = .ok (.if_icmp .ge 29, 3) := by decide +kernel
theorem dX3_isFree_46 : decode mX3_isFree.2.1 46 = .ok (.aload_n 0, 1) := by decide +kernel
theorem dX3_isFree_47 : decode mX3_isFree.2.1 47 = .ok (.getfield 27, 3) := by decide +kernel
theorem dX3_isFree_50 : decode mX3_isFree.2.1 50 = .ok (.iload 5, 2) := by decide +kernel
theorem dX3_isFree_52 : decode mX3_isFree.2.1 52 = .ok (.aload_n 0, 1) := by decide +kernel
theorem dX3_isFree_53 : decode mX3_isFree.2.1 53 = .ok (.getfield 18, 3) := by decide +kernel
theorem dX3_isFree_56 : decode mX3_isFree.2.1 56 = .ok (.imul, 1) := by decide +kernel
theorem dX3_isFree_57 : decode mX3_isFree.2.1 57 = .ok (.iload 6, 2) := by decide +kernel
theorem dX3_isFree_59 : decode mX3_isFree.2.1 59 = .ok (.iadd, 1) := by decide +kernel
theorem dX3_isFree_60 : decode mX3_isFree.2.1 60 = .ok (.iaload, 1) := by decide +kernel
theorem dX3_isFree_61 : decode mX3_isFree.2.1 61 = .ok (.ifCond .eq 5, 3) := by decide +kernel
theorem dX3_isFree_64 : decode mX3_isFree.2.1 64 = .ok (.iconst 0, 1) := by decide +kernel
theorem dX3_isFree_65 : decode mX3_isFree.2.1 65 = .ok (.ireturn, 1) := by decide +kernel
theorem dX3_isFree_66 : decode mX3_isFree.2.1 66 = .ok (.iinc 6 1, 3) := by decide +kernel
theorem dX3_isFree_69 : decode mX3_isFree.2.1 69 = .ok (.goto (-31), 3) := by decide +kernel
theorem dX3_isFree_72 : decode mX3_isFree.2.1 72 = .ok (.iinc 5 1, 3) := by decide +kernel
theorem dX3_isFree_75 : decode mX3_isFree.2.1 75 = .ok (.goto (-49), 3) := by decide +kernel
theorem dX3_isFree_78 : decode mX3_isFree.2.1 78 = .ok (.iconst 1, 1) := by decide +kernel
theorem dX3_isFree_79 : decode mX3_isFree.2.1 79 = .ok (.ireturn, 1) := by decide +kernel

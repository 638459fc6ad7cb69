theorem dX5_init_0 : decode mX5_init.2.1 0 = .ok (.aload_n 0, 1) := by decide +kernel
theorem dX5_init_1 : decode mX5_init.2.1 1 = .ok (.invokespecial 3, 3) := by decide +kernel
theorem dX5_init_4 : decode mX5_init.2.1 4 = .ok (.aload_n 0, 1) := by decide +kernel
theorem dX5_init_5 : decode mX5_init.2.1 5 = .ok (.bipush 10, 2) := by decide +kernel
theorem dX5_init_7 : decode mX5_init.2.1 7 = .ok (.anewarray 9, 3) := by decide +kernel
theorem dX5_init_10 : decode mX5_init.2.1 10 = .ok (.putfield 11, 3) := by decide +kernel
theorem dX5_init_13 : decode mX5_init.2.1 13 = .ok (.aload_n 0, 1) := by decide +kernel
theorem dX5_init_14 : decode mX5_init.2.1 14 = .ok (.new 15, 3) := by decide +kernel
theorem dX5_init_17 : decode mX5_init.2.1 17 = .ok (.dup, 1) := by decide +kernel
theorem dX5_init_18 : decode mX5_init.2.1 18 = .ok (.invokespecial 17, 3) := by decide +kernel
theorem dX5_init_21 : decode mX5_init.2.1 21 = .ok (.putfield 18, 3) := by decide +kernel
theorem dX5_init_24 : decode mX5_init.2.1 24 = .ok (.aload_n 0, 1) := by decide +kernel
theorem dX5_init_25 : decode mX5_init.2.1 25 = .ok (.new 22, 3) := by decide +kernel
theorem dX5_init_28 : decode mX5_init.2.1 28 = .ok (.dup, 1) := by decide +kernel
theorem dX5_init_29 : decode mX5_init.2.1 29 = .ok (.invokespecial 24, 3) := by decide +kernel
theorem dX5_init_32 : decode mX5_init.2.1 32 = .ok (.putfield 25, 3) := by decide +kernel
theorem dX5_init_35 : decode mX5_init.2.1 35 = .ok (.aload_n 0, 1) := by decide +kernel
theorem dX5_init_36 : decode mX5_init.2.1 36 = .ok (.bipush 6, 2) := by decide +kernel
theorem dX5_init_38 : decode mX5_init.2.1 38 = .ok (.anewarray 29, 3) := by decide +kernel
theorem dX5_init_41 : decode mX5_init.2.1 41 = .ok (.putfield 31, 3) := by decide +kernel
theorem dX5_init_44 : decode mX5_init.2.1 44 = .ok (.aload_n 0, 1) := by decide +kernel
theorem dX5_init_45 : decode mX5_init.2.1 45 = .ok (.new 35, 3) := by decide +kernel
theorem dX5_init_48 : decode mX5_init.2.1 48 = .ok (.dup, 1) := by decide +kernel
theorem dX5_init_49 : decode mX5_init.2.1 49 = .ok (.invokespecial 37, 3) := by decide +kernel
theorem dX5_init_52 : decode mX5_init.2.1 52 = .ok (.putfield 38, 3) := by decide +kernel
theorem dX5_init_55 : decode mX5_init.2.1 55 = .ok (.aload_n 0, 1) := by decide +kernel
theorem dX5_init_56 : decode mX5_init.2.1 56 = .ok (.iconst 0, 1) := by decide +kernel
theorem dX5_init_57 : decode mX5_init.2.1 57 = .ok (.putfield 42, 3) := by decide +kernel
theorem dX5_init_60 : decode mX5_init.2.1 60 = .ok (.aload_n 0, 1) := by decide +kernel
theorem dX5_init_61 : decode mX5_init.2.1 61 = .ok (.iconst 0, 1) := by decide +kernel
theorem dX5_init_62 : decode mX5_init.2.1 62 = .ok (.putfield 46, 3) := by decide +kernel
theorem dX5_init_65 : decode mX5_init.2.1 65 = .ok (.aload_n 0, 1) := by decide +kernel
theorem dX5_init_66 : decode mX5_init.2.1 66 = .ok (.iconst 0, 1) := by decide +kernel
theorem dX5_init_67 : decode mX5_init.2.1 67 = .ok (.putfield 49, 3) := by decide +kernel
theorem dX5_init_70 : decode mX5_init.2.1 70 = .ok (.return_, 1) := by decide +kernel
theorem dX5_book_0 : decode mX5_book.2.1 0 = .ok (.aload_n 0, 1) := by decide +kernel
theorem dX5_book_1 : decode mX5_book.2.1 1 = .ok (.getfield 42, 3) := by decide +kernel
theorem dX5_book_4 : decode mX5_book.2.1 4 = .ok (.bipush 10, 2) := by decide +kernel
theorem dX5_book_6 : decode mX5_book.2.1 6 = .ok (.if_icmp .lt 6, 3) := by decide +kernel
theorem dX5_book_9 : decode mX5_book.2.1 9 = .ok (.bipush (-6), 2) := by decide +kernel
theorem dX5_book_11 : decode mX5_book.2.1 11 = .ok (.ireturn, 1) := by decide +kernel
theorem dX5_book_12 : decode mX5_book.2.1 12 = .ok (.aload_n 0, 1) := by decide +kernel
theorem dX5_book_13 : decode mX5_book.2.1 13 = .ok (.getfield 11, 3) := by decide +kernel
theorem dX5_book_16 : decode mX5_book.2.1 16 = .ok (.aload_n 0, 1) := by decide +kernel
theorem dX5_book_17 : decode mX5_book.2.1 17 = .ok (.getfield 42, 3) := by decide +kernel
theorem dX5_book_20 : decode mX5_book.2.1 20 = .ok (.new 9, 3) := by decide +kernel
theorem dX5_book_23 : decode mX5_book.2.1 23 = .ok (.dup, 1) := by decide +kernel
theorem dX5_book_24 : decode mX5_book.2.1 24 = .ok (.invokespecial 52, 3) := by decide +kernel
theorem dX5_book_27 : decode mX5_book.2.1 27 = .ok (.aastore, 1) := by decide +kernel
theorem dX5_book_28 : decode mX5_book.2.1 28 = .ok (.aload_n 0, 1) := by decide +kernel
theorem dX5_book_29 : decode mX5_book.2.1 29 = .ok (.dup, 1) := by decide +kernel
theorem dX5_book_30 : decode mX5_book.2.1 30 = .ok (.getfield 42, 3) := by decide +kernel
theorem dX5_book_33 : decode mX5_book.2.1 33 = .ok (.iconst 1, 1) := by decide +kernel
theorem dX5_book_34 : decode mX5_book.2.1 34 = .ok (.iadd, 1) := by decide +kernel
theorem dX5_book_35 : decode mX5_book.2.1 35 = .ok (.putfield 42, 3) := by decide +kernel
theorem dX5_book_38 : decode mX5_book.2.1 38 = .ok (.aload_n 0, 1) := by decide +kernel
theorem dX5_book_39 : decode mX5_book.2.1 39 = .ok (.getfield 42, 3) := by decide +kernel
theorem dX5_book_42 : decode mX5_book.2.1 42 = .ok (.iconst 1, 1) := by decide +kernel
theorem dX5_book_43 : decode mX5_book.2.1 43 = .ok (.isub, 1) := by decide +kernel
theorem dX5_book_44 : decode mX5_book.2.1 44 = .ok (.ireturn, 1) := by decide +kernel
theorem dX5_gather_0 : decode mX5_gather.2.1 0 = .ok (.aload_n 0, 1) := by decide +kernel
theorem dX5_gather_1 : decode mX5_gather.2.1 1 = .ok (.iload_n 1, 1) := by decide +kernel
theorem dX5_gather_2 : decode mX5_gather.2.1 2 = .ok (.invokevirtual 53, 3) := by decide +kernel
theorem dX5_gather_5 : decode mX5_gather.2.1 5 = .ok (.astore_n 3, 1) := by decide +kernel
theorem dX5_gather_6 : decode mX5_gather.2.1 6 = .ok (.aload_n 3, 1) := by decide +kernel
theorem dX5_gather_7 : decode mX5_gather.2.1 7 = .ok (.ifnonnull 6, 3) := by decide +kernel
theorem dX5_gather_10 : decode mX5_gather.2.1 10 = .ok (.bipush (-2), 2) := by decide +kernel
theorem dX5_gather_12 : decode mX5_gather.2.1 12 = .ok (.ireturn, 1) := by decide +kernel
theorem dX5_gather_13 : decode mX5_gather.2.1 13 = .ok (.iload_n 2, 1) := by decide +kernel
theorem dX5_gather_14 : decode mX5_gather.2.1 14 = .ok (.iconst 1, 1) := by decide +kernel
theorem dX5_gather_15 : decode mX5_gather.2.1 15 = .ok (.bipush 16, 2) := by decide +kernel
theorem dX5_gather_17 : decode mX5_gather.2.1 17 = .ok (.invokestatic 57, 3) := by decide +kernel
theorem dX5_gather_20 : decode mX5_gather.2.1 20 = .ok (.ifCond .ne 6, 3) := by decide +kernel
theorem dX5_gather_23 : decode mX5_gather.2.1 23 = .ok (.bipush (-3), 2) := by decide +kernel
theorem dX5_gather_25 : decode mX5_gather.2.1 25 = .ok (.ireturn, 1) := by decide +kernel
theorem dX5_gather_26 : decode mX5_gather.2.1 26 = .ok (.aload_n 3, 1) := by decide +kernel
theorem dX5_gather_27 : decode mX5_gather.2.1 27 = .ok (.getfield 61, 3) := by decide +kernel
theorem dX5_gather_30 : decode mX5_gather.2.1 30 = .ok (.ifCond .eq 6, 3) := by decide +kernel
theorem dX5_gather_33 : decode mX5_gather.2.1 33 = .ok (.bipush (-4), 2) := by decide +kernel
theorem dX5_gather_35 : decode mX5_gather.2.1 35 = .ok (.ireturn, 1) := by decide +kernel
theorem dX5_gather_36 : decode mX5_gather.2.1 36 = .ok (.aload_n 3, 1) := by decide +kernel
theorem dX5_gather_37 : decode mX5_gather.2.1 37 = .ok (.iload_n 2, 1) := by decide +kernel
theorem dX5_gather_38 : decode mX5_gather.2.1 38 = .ok (.invokevirtual 64, 3) := by decide +kernel
theorem dX5_gather_41 : decode mX5_gather.2.1 41 = .ok (.ireturn, 1) := by decide +kernel
theorem dX5_look_0 : decode mX5_look.2.1 0 = .ok (.aload_n 0, 1) := by decide +kernel
theorem dX5_look_1 : decode mX5_look.2.1 1 = .ok (.iload_n 1, 1) := by decide +kernel
theorem dX5_look_2 : decode mX5_look.2.1 2 = .ok (.invokevirtual 53, 3) := by decide +kernel
theorem dX5_look_5 : decode mX5_look.2.1 5 = .ok (.astore 4, 2) := by decide +kernel
theorem dX5_look_7 : decode mX5_look.2.1 7 = .ok (.aload 4, 2) := by decide +kernel
theorem dX5_look_9 : decode mX5_look.2.1 9 = .ok (.ifnull 12, 3) := by decide +kernel
theorem dX5_look_12 : decode mX5_look.2.1 12 = .ok (.aload 4, 2) := by decide +kernel
theorem dX5_look_14 : decode mX5_look.2.1 14 = .ok (.iload_n 2, 1) := by decide +kernel
theorem dX5_look_15 : decode mX5_look.2.1 15 = .ok (.invokevirtual 68, 3) := by decide +kernel
theorem dX5_look_18 : decode mX5_look.2.1 18 = .ok (.ifCond .ne 6, 3) := by decide +kernel
theorem dX5_look_21 : decode mX5_look.2.1 21 = .ok (.bipush (-2), 2) := by decide +kernel
theorem dX5_look_23 : decode mX5_look.2.1 23 = .ok (.ireturn, 1) := by decide +kernel
theorem dX5_look_24 : decode mX5_look.2.1 24 = .ok (.aload 4, 2) := by decide +kernel
theorem dX5_look_26 : decode mX5_look.2.1 26 = .ok (.iload_n 2, 1) := by decide +kernel
theorem dX5_look_27 : decode mX5_look.2.1 27 = .ok (.iload_n 3, 1) := by decide +kernel
theorem dX5_look_28 : decode mX5_look.2.1 28 = .ok (.invokevirtual 72, 3) := by decide +kernel
theorem dX5_look_31 : decode mX5_look.2.1 31 = .ok (.ifCond .ne 6, 3) := by decide +kernel
theorem dX5_look_34 : decode mX5_look.2.1 34 = .ok (.bipush (-3), 2) := by decide +kernel
theorem dX5_look_36 : decode mX5_look.2.1 36 = .ok (.ireturn, 1) := by decide +kernel
theorem dX5_look_37 : decode mX5_look.2.1 37 = .ok (.aload 4, 2) := by decide +kernel
theorem dX5_look_39 : decode mX5_look.2.1 39 = .ok (.getfield 61, 3) := by decide +kernel
theorem dX5_look_42 : decode mX5_look.2.1 42 = .ok (.iconst 5, 1) := by decide +kernel
theorem dX5_look_43 : decode mX5_look.2.1 43 = .ok (.if_icmp .ne 6, 3) := by decide +kernel
theorem dX5_look_46 : decode mX5_look.2.1 46 = .ok (.bipush (-4), 2) := by decide +kernel
theorem dX5_look_48 : decode mX5_look.2.1 48 = .ok (.ireturn, 1) := by decide +kernel
theorem dX5_look_49 : decode mX5_look.2.1 49 = .ok (.aload 4, 2) := by decide +kernel
theorem dX5_look_51 : decode mX5_look.2.1 51 = .ok (.iload_n 2, 1) := by decide +kernel
theorem dX5_look_52 : decode mX5_look.2.1 52 = .ok (.iload_n 3, 1) := by decide +kernel
theorem dX5_look_53 : decode mX5_look.2.1 53 = .ok (.invokevirtual 76, 3) := by decide +kernel
theorem dX5_look_56 : decode mX5_look.2.1 56 = .ok (.ireturn, 1) := by decide +kernel
theorem dX5_pass_0 : decode mX5_pass.2.1 0 = .ok (.aload_n 0, 1) := by decide +kernel
theorem dX5_pass_1 : decode mX5_pass.2.1 1 = .ok (.iload_n 1, 1) := by decide +kernel
theorem dX5_pass_2 : decode mX5_pass.2.1 2 = .ok (.invokevirtual 53, 3) := by decide +kernel
theorem dX5_pass_5 : decode mX5_pass.2.1 5 = .ok (.astore_n 2, 1) := by decide +kernel
theorem dX5_pass_6 : decode mX5_pass.2.1 6 = .ok (.aload_n 2, 1) := by decide +kernel
theorem dX5_pass_7 : decode mX5_pass.2.1 7 = .ok (.ifnonnull 6, 3) := by decide +kernel
theorem dX5_pass_10 : decode mX5_pass.2.1 10 = .ok (.bipush (-2), 2) := by decide +kernel
theorem dX5_pass_12 : decode mX5_pass.2.1 12 = .ok (.ireturn, 1) := by decide +kernel
theorem dX5_pass_13 : decode mX5_pass.2.1 13 = .ok (.aload_n 2, 1) := by decide +kernel
theorem dX5_pass_14 : decode mX5_pass.2.1 14 = .ok (.invokevirtual 80, 3) := by decide +kernel
theorem dX5_pass_17 : decode mX5_pass.2.1 17 = .ok (.ifCond .ne 6, 3) := by decide +kernel
theorem dX5_pass_20 : decode mX5_pass.2.1 20 = .ok (.bipush (-4), 2) := by decide +kernel
theorem dX5_pass_22 : decode mX5_pass.2.1 22 = .ok (.ireturn, 1) := by decide +kernel
theorem dX5_pass_23 : decode mX5_pass.2.1 23 = .ok (.aload_n 0, 1) := by decide +kernel
theorem dX5_pass_24 : decode mX5_pass.2.1 24 = .ok (.getfield 38, 3) := by decide +kernel
theorem dX5_pass_27 : decode mX5_pass.2.1 27 = .ok (.aload_n 2, 1) := by decide +kernel
theorem dX5_pass_28 : decode mX5_pass.2.1 28 = .ok (.getfield 61, 3) := by decide +kernel
theorem dX5_pass_31 : decode mX5_pass.2.1 31 = .ok (.aload_n 0, 1) := by decide +kernel
theorem dX5_pass_32 : decode mX5_pass.2.1 32 = .ok (.getfield 49, 3) := by decide +kernel
theorem dX5_pass_35 : decode mX5_pass.2.1 35 = .ok (.invokevirtual 84, 3) := by decide +kernel
theorem dX5_pass_38 : decode mX5_pass.2.1 38 = .ok (.aload_n 2, 1) := by decide +kernel
theorem dX5_pass_39 : decode mX5_pass.2.1 39 = .ok (.invokevirtual 88, 3) := by decide +kernel
theorem dX5_pass_42 : decode mX5_pass.2.1 42 = .ok (.ireturn, 1) := by decide +kernel
theorem dX5_told_0 : decode mX5_told.2.1 0 = .ok (.aload_n 0, 1) := by decide +kernel
theorem dX5_told_1 : decode mX5_told.2.1 1 = .ok (.iload_n 1, 1) := by decide +kernel
theorem dX5_told_2 : decode mX5_told.2.1 2 = .ok (.invokevirtual 53, 3) := by decide +kernel
theorem dX5_told_5 : decode mX5_told.2.1 5 = .ok (.astore_n 3, 1) := by decide +kernel
theorem dX5_told_6 : decode mX5_told.2.1 6 = .ok (.aload_n 3, 1) := by decide +kernel
theorem dX5_told_7 : decode mX5_told.2.1 7 = .ok (.ifnonnull 6, 3) := by decide +kernel
theorem dX5_told_10 : decode mX5_told.2.1 10 = .ok (.bipush (-2), 2) := by decide +kernel
theorem dX5_told_12 : decode mX5_told.2.1 12 = .ok (.ireturn, 1) := by decide +kernel
theorem dX5_told_13 : decode mX5_told.2.1 13 = .ok (.iload_n 2, 1) := by decide +kernel
theorem dX5_told_14 : decode mX5_told.2.1 14 = .ok (.tableswitch 50 0 3 #[30, 35, 40, 45], 30) := by decide +kernel
theorem dX5_told_44 : decode mX5_told.2.1 44 = .ok (.aload_n 3, 1) := by decide +kernel
theorem dX5_told_45 : decode mX5_told.2.1 45 = .ok (.getfield 61, 3) := by decide +kernel
theorem dX5_told_48 : decode mX5_told.2.1 48 = .ok (.ireturn, 1) := by decide +kernel
theorem dX5_told_49 : decode mX5_told.2.1 49 = .ok (.aload_n 3, 1) := by decide +kernel
theorem dX5_told_50 : decode mX5_told.2.1 50 = .ok (.getfield 92, 3) := by decide +kernel
theorem dX5_told_53 : decode mX5_told.2.1 53 = .ok (.ireturn, 1) := by decide +kernel
theorem dX5_told_54 : decode mX5_told.2.1 54 = .ok (.aload_n 3, 1) := by decide +kernel
theorem dX5_told_55 : decode mX5_told.2.1 55 = .ok (.invokevirtual 95, 3) := by decide +kernel
theorem dX5_told_58 : decode mX5_told.2.1 58 = .ok (.ireturn, 1) := by decide +kernel
theorem dX5_told_59 : decode mX5_told.2.1 59 = .ok (.aload_n 3, 1) := by decide +kernel
theorem dX5_told_60 : decode mX5_told.2.1 60 = .ok (.invokevirtual 98, 3) := by decide +kernel
theorem dX5_told_63 : decode mX5_told.2.1 63 = .ok (.ireturn, 1) := by decide +kernel
theorem dX5_told_64 : decode mX5_told.2.1 64 = .ok (.bipush (-3), 2) := by decide +kernel
theorem dX5_told_66 : decode mX5_told.2.1 66 = .ok (.ireturn, 1) := by decide +kernel
theorem dX5_there_0 : decode mX5_there.2.1 0 = .ok (.aload_n 0, 1) := by decide +kernel
theorem dX5_there_1 : decode mX5_there.2.1 1 = .ok (.iload_n 1, 1) := by decide +kernel
theorem dX5_there_2 : decode mX5_there.2.1 2 = .ok (.invokevirtual 53, 3) := by decide +kernel
theorem dX5_there_5 : decode mX5_there.2.1 5 = .ok (.astore_n 3, 1) := by decide +kernel
theorem dX5_there_6 : decode mX5_there.2.1 6 = .ok (.aload_n 3, 1) := by decide +kernel
theorem dX5_there_7 : decode mX5_there.2.1 7 = .ok (.ifnull 11, 3) := by decide +kernel
theorem dX5_there_10 : decode mX5_there.2.1 10 = .ok (.aload_n 3, 1) := by decide +kernel
theorem dX5_there_11 : decode mX5_there.2.1 11 = .ok (.iload_n 2, 1) := by decide +kernel
theorem dX5_there_12 : decode mX5_there.2.1 12 = .ok (.invokevirtual 68, 3) := by decide +kernel
theorem dX5_there_15 : decode mX5_there.2.1 15 = .ok (.ifCond .ne 6, 3) := by decide +kernel
theorem dX5_there_18 : decode mX5_there.2.1 18 = .ok (.bipush (-2), 2) := by decide +kernel
theorem dX5_there_20 : decode mX5_there.2.1 20 = .ok (.ireturn, 1) := by decide +kernel
theorem dX5_there_21 : decode mX5_there.2.1 21 = .ok (.aload_n 3, 1) := by decide +kernel
theorem dX5_there_22 : decode mX5_there.2.1 22 = .ok (.getfield 101, 3) := by decide +kernel
theorem dX5_there_25 : decode mX5_there.2.1 25 = .ok (.iload_n 2, 1) := by decide +kernel
theorem dX5_there_26 : decode mX5_there.2.1 26 = .ok (.iaload, 1) := by decide +kernel
theorem dX5_there_27 : decode mX5_there.2.1 27 = .ok (.ireturn, 1) := by decide +kernel
theorem dX5_gone_0 : decode mX5_gone.2.1 0 = .ok (.aload_n 0, 1) := by decide +kernel
theorem dX5_gone_1 : decode mX5_gone.2.1 1 = .ok (.iload_n 1, 1) := by decide +kernel
theorem dX5_gone_2 : decode mX5_gone.2.1 2 = .ok (.invokevirtual 53, 3) := by decide +kernel
theorem dX5_gone_5 : decode mX5_gone.2.1 5 = .ok (.astore 4, 2) := by decide +kernel
theorem dX5_gone_7 : decode mX5_gone.2.1 7 = .ok (.aload 4, 2) := by decide +kernel
theorem dX5_gone_9 : decode mX5_gone.2.1 9 = .ok (.ifnull 10, 3) := by decide +kernel
theorem dX5_gone_12 : decode mX5_gone.2.1 12 = .ok (.iload_n 2, 1) := by decide +kernel
theorem dX5_gone_13 : decode mX5_gone.2.1 13 = .ok (.invokestatic 105, 3) := by decide +kernel
theorem dX5_gone_16 : decode mX5_gone.2.1 16 = .ok (.ifCond .ne 6, 3) := by decide +kernel
theorem dX5_gone_19 : decode mX5_gone.2.1 19 = .ok (.bipush (-2), 2) := by decide +kernel
theorem dX5_gone_21 : decode mX5_gone.2.1 21 = .ok (.ireturn, 1) := by decide +kernel
theorem dX5_gone_22 : decode mX5_gone.2.1 22 = .ok (.iload_n 3, 1) := by decide +kernel
theorem dX5_gone_23 : decode mX5_gone.2.1 23 = .ok (.lookupswitch 41 #[(0, 25), (1, 33)], 25) := by decide +kernel
theorem dX5_gone_48 : decode mX5_gone.2.1 48 = .ok (.aload 4, 2) := by decide +kernel
theorem dX5_gone_50 : decode mX5_gone.2.1 50 = .ok (.getfield 108, 3) := by decide +kernel
theorem dX5_gone_53 : decode mX5_gone.2.1 53 = .ok (.iload_n 2, 1) := by decide +kernel
theorem dX5_gone_54 : decode mX5_gone.2.1 54 = .ok (.iaload, 1) := by decide +kernel
theorem dX5_gone_55 : decode mX5_gone.2.1 55 = .ok (.ireturn, 1) := by decide +kernel
theorem dX5_gone_56 : decode mX5_gone.2.1 56 = .ok (.aload 4, 2) := by decide +kernel
theorem dX5_gone_58 : decode mX5_gone.2.1 58 = .ok (.getfield 111, 3) := by decide +kernel
theorem dX5_gone_61 : decode mX5_gone.2.1 61 = .ok (.iload_n 2, 1) := by decide +kernel
theorem dX5_gone_62 : decode mX5_gone.2.1 62 = .ok (.iaload, 1) := by decide +kernel
theorem dX5_gone_63 : decode mX5_gone.2.1 63 = .ok (.ireturn, 1) := by decide +kernel
theorem dX5_gone_64 : decode mX5_gone.2.1 64 = .ok (.bipush (-3), 2) := by decide +kernel
theorem dX5_gone_66 : decode mX5_gone.2.1 66 = .ok (.ireturn, 1) := by decide +kernel
theorem dX5_hours_0 : decode mX5_hours.2.1 0 = .ok (.aload_n 0, 1) := by decide +kernel
theorem dX5_hours_1 : decode mX5_hours.2.1 1 = .ok (.iload_n 1, 1) := by decide +kernel
theorem dX5_hours_2 : decode mX5_hours.2.1 2 = .ok (.invokevirtual 53, 3) := by decide +kernel
theorem dX5_hours_5 : decode mX5_hours.2.1 5 = .ok (.astore 4, 2) := by decide +kernel
theorem dX5_hours_7 : decode mX5_hours.2.1 7 = .ok (.aload 4, 2) := by decide +kernel
theorem dX5_hours_9 : decode mX5_hours.2.1 9 = .ok (.ifnull 10, 3) := by decide +kernel
theorem dX5_hours_12 : decode mX5_hours.2.1 12 = .ok (.iload_n 2, 1) := by decide +kernel
theorem dX5_hours_13 : decode mX5_hours.2.1 13 = .ok (.invokestatic 105, 3) := by decide +kernel
theorem dX5_hours_16 : decode mX5_hours.2.1 16 = .ok (.ifCond .ne 6, 3) := by decide +kernel
theorem dX5_hours_19 : decode mX5_hours.2.1 19 = .ok (.bipush (-2), 2) := by decide +kernel
theorem dX5_hours_21 : decode mX5_hours.2.1 21 = .ok (.ireturn, 1) := by decide +kernel
theorem dX5_hours_22 : decode mX5_hours.2.1 22 = .ok (.iload_n 3, 1) := by decide +kernel
theorem dX5_hours_23 : decode mX5_hours.2.1 23 = .ok (.iconst 0, 1) := by decide +kernel
theorem dX5_hours_24 : decode mX5_hours.2.1 24 = .ok (.bipush 50, 2) := by decide +kernel
theorem dX5_hours_26 : decode mX5_hours.2.1 26 = .ok (.invokestatic 57, 3) := by decide +kernel
theorem dX5_hours_29 : decode mX5_hours.2.1 29 = .ok (.ifCond .ne 6, 3) := by decide +kernel
theorem dX5_hours_32 : decode mX5_hours.2.1 32 = .ok (.bipush (-3), 2) := by decide +kernel
theorem dX5_hours_34 : decode mX5_hours.2.1 34 = .ok (.ireturn, 1) := by decide +kernel
theorem dX5_hours_35 : decode mX5_hours.2.1 35 = .ok (.aload 4, 2) := by decide +kernel
theorem dX5_hours_37 : decode mX5_hours.2.1 37 = .ok (.getfield 114, 3) := by decide +kernel
theorem dX5_hours_40 : decode mX5_hours.2.1 40 = .ok (.iload_n 2, 1) := by decide +kernel
theorem dX5_hours_41 : decode mX5_hours.2.1 41 = .ok (.iload_n 3, 1) := by decide +kernel
theorem dX5_hours_42 : decode mX5_hours.2.1 42 = .ok (.iastore, 1) := by decide +kernel
theorem dX5_hours_43 : decode mX5_hours.2.1 43 = .ok (.iconst 1, 1) := by decide +kernel
theorem dX5_hours_44 : decode mX5_hours.2.1 44 = .ok (.ireturn, 1) := by decide +kernel
theorem dX5_promise_0 : decode mX5_promise.2.1 0 = .ok (.aload_n 0, 1) := by decide +kernel
theorem dX5_promise_1 : decode mX5_promise.2.1 1 = .ok (.iload_n 1, 1) := by decide +kernel
theorem dX5_promise_2 : decode mX5_promise.2.1 2 = .ok (.invokevirtual 53, 3) := by decide +kernel
theorem dX5_promise_5 : decode mX5_promise.2.1 5 = .ok (.astore 5, 2) := by decide +kernel
theorem dX5_promise_7 : decode mX5_promise.2.1 7 = .ok (.aload 5, 2) := by decide +kernel
theorem dX5_promise_9 : decode mX5_promise.2.1 9 = .ok (.ifnonnull 6, 3) := by decide +kernel
theorem dX5_promise_12 : decode mX5_promise.2.1 12 = .ok (.bipush (-2), 2) := by decide +kernel
theorem dX5_promise_14 : decode mX5_promise.2.1 14 = .ok (.ireturn, 1) := by decide +kernel
theorem dX5_promise_15 : decode mX5_promise.2.1 15 = .ok (.iload_n 2, 1) := by decide +kernel
theorem dX5_promise_16 : decode mX5_promise.2.1 16 = .ok (.iconst 0, 1) := by decide +kernel
theorem dX5_promise_17 : decode mX5_promise.2.1 17 = .ok (.bipush 30, 2) := by decide +kernel
theorem dX5_promise_19 : decode mX5_promise.2.1 19 = .ok (.invokestatic 57, 3) := by decide +kernel
theorem dX5_promise_22 : decode mX5_promise.2.1 22 = .ok (.ifCond .eq 25, 3) := by decide +kernel
theorem dX5_promise_25 : decode mX5_promise.2.1 25 = .ok (.iload_n 3, 1) := by decide +kernel
theorem dX5_promise_26 : decode mX5_promise.2.1 26 = .ok (.iconst 0, 1) := by decide +kernel
theorem dX5_promise_27 : decode mX5_promise.2.1 27 = .ok (.sipush 2000, 3) := by decide +kernel
theorem dX5_promise_30 : decode mX5_promise.2.1 30 = .ok (.invokestatic 57, 3) := by decide +kernel
theorem dX5_promise_33 : decode mX5_promise.2.1 33 = .ok (.ifCond .eq 14, 3) := by decide +kernel
theorem dX5_promise_36 : decode mX5_promise.2.1 36 = .ok (.iload 4, 2) := by decide +kernel
theorem dX5_promise_38 : decode mX5_promise.2.1 38 = .ok (.iconst 0, 1) := by decide +kernel
theorem dX5_promise_39 : decode mX5_promise.2.1 39 = .ok (.bipush 100, 2) := by decide +kernel
theorem dX5_promise_41 : decode mX5_promise.2.1 41 = .ok (.invokestatic 57, 3) := by decide +kernel
theorem dX5_promise_44 : decode mX5_promise.2.1 44 = .ok (.ifCond .ne 6, 3) := by decide +kernel
theorem dX5_promise_47 : decode mX5_promise.2.1 47 = .ok (.bipush (-3), 2) := by decide +kernel
theorem dX5_promise_49 : decode mX5_promise.2.1 49 = .ok (.ireturn, 1) := by decide +kernel
theorem dX5_promise_50 : decode mX5_promise.2.1 50 = .ok (.aload 5, 2) := by decide +kernel
theorem dX5_promise_52 : decode mX5_promise.2.1 52 = .ok (.iload_n 2, 1) := by decide +kernel
theorem dX5_promise_53 : decode mX5_promise.2.1 53 = .ok (.putfield 117, 3) := by decide +kernel
theorem dX5_promise_56 : decode mX5_promise.2.1 56 = .ok (.aload 5, 2) := by decide +kernel
theorem dX5_promise_58 : decode mX5_promise.2.1 58 = .ok (.iload_n 3, 1) := by decide +kernel
theorem dX5_promise_59 : decode mX5_promise.2.1 59 = .ok (.putfield 120, 3) := by decide +kernel
theorem dX5_promise_62 : decode mX5_promise.2.1 62 = .ok (.aload 5, 2) := by decide +kernel
theorem dX5_promise_64 : decode mX5_promise.2.1 64 = .ok (.iload 4, 2) := by decide +kernel
theorem dX5_promise_66 : decode mX5_promise.2.1 66 = .ok (.putfield 123, 3) := by decide +kernel
theorem dX5_promise_69 : decode mX5_promise.2.1 69 = .ok (.iconst 1, 1) := by decide +kernel
theorem dX5_promise_70 : decode mX5_promise.2.1 70 = .ok (.ireturn, 1) := by decide +kernel
theorem dX5_plan_0 : decode mX5_plan.2.1 0 = .ok (.iload_n 1, 1) := by decide +kernel
theorem dX5_plan_1 : decode mX5_plan.2.1 1 = .ok (.aload_n 0, 1) := by decide +kernel
theorem dX5_plan_2 : decode mX5_plan.2.1 2 = .ok (.getfield 42, 3) := by decide +kernel
theorem dX5_plan_5 : decode mX5_plan.2.1 5 = .ok (.iushr, 1) := by decide +kernel
theorem dX5_plan_6 : decode mX5_plan.2.1 6 = .ok (.ifCond .eq 6, 3) := by decide +kernel
theorem dX5_plan_9 : decode mX5_plan.2.1 9 = .ok (.bipush (-2), 2) := by decide +kernel
theorem dX5_plan_11 : decode mX5_plan.2.1 11 = .ok (.ireturn, 1) := by decide +kernel
theorem dX5_plan_12 : decode mX5_plan.2.1 12 = .ok (.iload_n 1, 1) := by decide +kernel
theorem dX5_plan_13 : decode mX5_plan.2.1 13 = .ok (.invokestatic 126, 3) := by decide +kernel
theorem dX5_plan_16 : decode mX5_plan.2.1 16 = .ok (.iconst 1, 1) := by decide +kernel
theorem dX5_plan_17 : decode mX5_plan.2.1 17 = .ok (.bipush 7, 2) := by decide +kernel
theorem dX5_plan_19 : decode mX5_plan.2.1 19 = .ok (.invokestatic 57, 3) := by decide +kernel
theorem dX5_plan_22 : decode mX5_plan.2.1 22 = .ok (.ifCond .ne 6, 3) := by decide +kernel
theorem dX5_plan_25 : decode mX5_plan.2.1 25 = .ok (.bipush (-3), 2) := by decide +kernel
theorem dX5_plan_27 : decode mX5_plan.2.1 27 = .ok (.ireturn, 1) := by decide +kernel
theorem dX5_plan_28 : decode mX5_plan.2.1 28 = .ok (.aload_n 0, 1) := by decide +kernel
theorem dX5_plan_29 : decode mX5_plan.2.1 29 = .ok (.getfield 18, 3) := by decide +kernel
theorem dX5_plan_32 : decode mX5_plan.2.1 32 = .ok (.invokevirtual 131, 3) := by decide +kernel
theorem dX5_plan_35 : decode mX5_plan.2.1 35 = .ok (.iconst 0, 1) := by decide +kernel
theorem dX5_plan_36 : decode mX5_plan.2.1 36 = .ok (.istore_n 2, 1) := by decide +kernel
theorem dX5_plan_37 : decode mX5_plan.2.1 37 = .ok (.iload_n 2, 1) := by decide +kernel
theorem dX5_plan_38 : decode mX5_plan.2.1 38 = .ok (.aload_n 0, 1) := by decide +kernel
theorem dX5_plan_39 : decode mX5_plan.2.1 39 = .ok (.getfield 42, 3) := by decide +kernel
theorem dX5_plan_42 : decode mX5_plan.2.1 42 = .ok (.if_icmp .ge 37, 3) := by decide +kernel
theorem dX5_plan_45 : decode mX5_plan.2.1 45 = .ok (.aload_n 0, 1) := by decide +kernel
theorem dX5_plan_46 : decode mX5_plan.2.1 46 = .ok (.iload_n 2, 1) := by decide +kernel
theorem dX5_plan_47 : decode mX5_plan.2.1 47 = .ok (.invokevirtual 53, 3) := by decide +kernel
theorem dX5_plan_50 : decode mX5_plan.2.1 50 = .ok (.astore_n 3, 1) := by decide +kernel
theorem dX5_plan_51 : decode mX5_plan.2.1 51 = .ok (.aload_n 3, 1) := by decide +kernel
theorem dX5_plan_52 : decode mX5_plan.2.1 52 = .ok (.ifnull 21, 3) := by decide +kernel
theorem dX5_plan_55 : decode mX5_plan.2.1 55 = .ok (.iload_n 1, 1) := by decide +kernel
theorem dX5_plan_56 : decode mX5_plan.2.1 56 = .ok (.iload_n 2, 1) := by decide +kernel
theorem dX5_plan_57 : decode mX5_plan.2.1 57 = .ok (.ishr, 1) := by decide +kernel
theorem dX5_plan_58 : decode mX5_plan.2.1 58 = .ok (.iconst 1, 1) := by decide +kernel
theorem dX5_plan_59 : decode mX5_plan.2.1 59 = .ok (.iand, 1) := by decide +kernel
theorem dX5_plan_60 : decode mX5_plan.2.1 60 = .ok (.iconst 1, 1) := by decide +kernel
theorem dX5_plan_61 : decode mX5_plan.2.1 61 = .ok (.if_icmp .ne 12, 3) := by decide +kernel
theorem dX5_plan_64 : decode mX5_plan.2.1 64 = .ok (.aload_n 0, 1) := by decide +kernel
theorem dX5_plan_65 : decode mX5_plan.2.1 65 = .ok (.getfield 18, 3) := by decide +kernel
theorem dX5_plan_68 : decode mX5_plan.2.1 68 = .ok (.iload_n 2, 1) := by decide +kernel
theorem dX5_plan_69 : decode mX5_plan.2.1 69 = .ok (.aload_n 3, 1) := by decide +kernel
theorem dX5_plan_70 : decode mX5_plan.2.1 70 = .ok (.invokevirtual 134, 3) := by decide +kernel
theorem dX5_plan_73 : decode mX5_plan.2.1 73 = .ok (.iinc 2 1, 3) := by decide +kernel
theorem dX5_plan_76 : decode mX5_plan.2.1 76 = .ok (.goto (-39), 3) := by decide +kernel
theorem dX5_plan_79 : decode mX5_plan.2.1 79 = .ok (.aload_n 0, 1) := by decide +kernel
theorem dX5_plan_80 : decode mX5_plan.2.1 80 = .ok (.getfield 18, 3) := by decide +kernel
theorem dX5_plan_83 : decode mX5_plan.2.1 83 = .ok (.invokevirtual 138, 3) := by decide +kernel
theorem dX5_plan_86 : decode mX5_plan.2.1 86 = .ok (.ireturn, 1) := by decide +kernel
theorem dX5_planned_0 : decode mX5_planned.2.1 0 = .ok (.aload_n 0, 1) := by decide +kernel
theorem dX5_planned_1 : decode mX5_planned.2.1 1 = .ok (.getfield 18, 3) := by decide +kernel
theorem dX5_planned_4 : decode mX5_planned.2.1 4 = .ok (.iload_n 1, 1) := by decide +kernel
theorem dX5_planned_5 : decode mX5_planned.2.1 5 = .ok (.invokevirtual 141, 3) := by decide +kernel
theorem dX5_planned_8 : decode mX5_planned.2.1 8 = .ok (.ifCond .ne 6, 3) := by decide +kernel
theorem dX5_planned_11 : decode mX5_planned.2.1 11 = .ok (.bipush (-3), 2) := by decide +kernel
theorem dX5_planned_13 : decode mX5_planned.2.1 13 = .ok (.ireturn, 1) := by decide +kernel
theorem dX5_planned_14 : decode mX5_planned.2.1 14 = .ok (.iload_n 2, 1) := by decide +kernel
theorem dX5_planned_15 : decode mX5_planned.2.1 15 = .ok (.lookupswitch 44 #[(0, 25), (1, 34)], 25) := by decide +kernel
theorem dX5_planned_40 : decode mX5_planned.2.1 40 = .ok (.aload_n 0, 1) := by decide +kernel
theorem dX5_planned_41 : decode mX5_planned.2.1 41 = .ok (.getfield 18, 3) := by decide +kernel
theorem dX5_planned_44 : decode mX5_planned.2.1 44 = .ok (.iload_n 1, 1) := by decide +kernel
theorem dX5_planned_45 : decode mX5_planned.2.1 45 = .ok (.invokevirtual 144, 3) := by decide +kernel
theorem dX5_planned_48 : decode mX5_planned.2.1 48 = .ok (.ireturn, 1) := by decide +kernel
theorem dX5_planned_49 : decode mX5_planned.2.1 49 = .ok (.aload_n 0, 1) := by decide +kernel
theorem dX5_planned_50 : decode mX5_planned.2.1 50 = .ok (.getfield 18, 3) := by decide +kernel
theorem dX5_planned_53 : decode mX5_planned.2.1 53 = .ok (.getfield 147, 3) := by decide +kernel
theorem dX5_planned_56 : decode mX5_planned.2.1 56 = .ok (.iload_n 1, 1) := by decide +kernel
theorem dX5_planned_57 : decode mX5_planned.2.1 57 = .ok (.iaload, 1) := by decide +kernel
theorem dX5_planned_58 : decode mX5_planned.2.1 58 = .ok (.ireturn, 1) := by decide +kernel
theorem dX5_planned_59 : decode mX5_planned.2.1 59 = .ok (.bipush (-3), 2) := by decide +kernel
theorem dX5_planned_61 : decode mX5_planned.2.1 61 = .ok (.ireturn, 1) := by decide +kernel
theorem dX5_delays_0 : decode mX5_delays.2.1 0 = .ok (.aload_n 0, 1) := by decide +kernel
theorem dX5_delays_1 : decode mX5_delays.2.1 1 = .ok (.iload_n 1, 1) := by decide +kernel
theorem dX5_delays_2 : decode mX5_delays.2.1 2 = .ok (.invokevirtual 53, 3) := by decide +kernel
theorem dX5_delays_5 : decode mX5_delays.2.1 5 = .ok (.ifnonnull 6, 3) := by decide +kernel
theorem dX5_delays_8 : decode mX5_delays.2.1 8 = .ok (.bipush (-2), 2) := by decide +kernel
theorem dX5_delays_10 : decode mX5_delays.2.1 10 = .ok (.ireturn, 1) := by decide +kernel
theorem dX5_delays_11 : decode mX5_delays.2.1 11 = .ok (.aload_n 0, 1) := by decide +kernel
theorem dX5_delays_12 : decode mX5_delays.2.1 12 = .ok (.getfield 18, 3) := by decide +kernel
theorem dX5_delays_15 : decode mX5_delays.2.1 15 = .ok (.iload_n 1, 1) := by decide +kernel
theorem dX5_delays_16 : decode mX5_delays.2.1 16 = .ok (.invokevirtual 150, 3) := by decide +kernel
theorem dX5_delays_19 : decode mX5_delays.2.1 19 = .ok (.istore_n 2, 1) := by decide +kernel
theorem dX5_delays_20 : decode mX5_delays.2.1 20 = .ok (.iload_n 2, 1) := by decide +kernel
theorem dX5_delays_21 : decode mX5_delays.2.1 21 = .ok (.iconst (-1), 1) := by decide +kernel
theorem dX5_delays_22 : decode mX5_delays.2.1 22 = .ok (.if_icmp .ne 6, 3) := by decide +kernel
theorem dX5_delays_25 : decode mX5_delays.2.1 25 = .ok (.bipush (-4), 2) := by decide +kernel
theorem dX5_delays_27 : decode mX5_delays.2.1 27 = .ok (.ireturn, 1) := by decide +kernel
theorem dX5_delays_28 : decode mX5_delays.2.1 28 = .ok (.aload_n 0, 1) := by decide +kernel
theorem dX5_delays_29 : decode mX5_delays.2.1 29 = .ok (.getfield 18, 3) := by decide +kernel
theorem dX5_delays_32 : decode mX5_delays.2.1 32 = .ok (.iload_n 2, 1) := by decide +kernel
theorem dX5_delays_33 : decode mX5_delays.2.1 33 = .ok (.invokevirtual 153, 3) := by decide +kernel
theorem dX5_delays_36 : decode mX5_delays.2.1 36 = .ok (.ireturn, 1) := by decide +kernel
theorem dX5_width_0 : decode mX5_width.2.1 0 = .ok (.iload_n 1, 1) := by decide +kernel
theorem dX5_width_1 : decode mX5_width.2.1 1 = .ok (.invokestatic 156, 3) := by decide +kernel
theorem dX5_width_4 : decode mX5_width.2.1 4 = .ok (.ifCond .ne 6, 3) := by decide +kernel
theorem dX5_width_7 : decode mX5_width.2.1 7 = .ok (.bipush (-2), 2) := by decide +kernel
theorem dX5_width_9 : decode mX5_width.2.1 9 = .ok (.ireturn, 1) := by decide +kernel
theorem dX5_width_10 : decode mX5_width.2.1 10 = .ok (.iload_n 2, 1) := by decide +kernel
theorem dX5_width_11 : decode mX5_width.2.1 11 = .ok (.iload_n 1, 1) := by decide +kernel
theorem dX5_width_12 : decode mX5_width.2.1 12 = .ok (.ifCond .ne 7, 3) := by decide +kernel
theorem dX5_width_15 : decode mX5_width.2.1 15 = .ok (.iconst 0, 1) := by decide +kernel
theorem dX5_width_16 : decode mX5_width.2.1 16 = .ok (.goto 4, 3) := by decide +kernel
theorem dX5_width_19 : decode mX5_width.2.1 19 = .ok (.iconst 1, 1) := by decide +kernel
theorem dX5_width_20 : decode mX5_width.2.1 20 = .ok (.bipush 20, 2) := by decide +kernel
theorem dX5_width_22 : decode mX5_width.2.1 22 = .ok (.invokestatic 57, 3) := by decide +kernel
theorem dX5_width_25 : decode mX5_width.2.1 25 = .ok (.ifCond .ne 6, 3) := by decide +kernel
theorem dX5_width_28 : decode mX5_width.2.1 28 = .ok (.bipush (-3), 2) := by decide +kernel
theorem dX5_width_30 : decode mX5_width.2.1 30 = .ok (.ireturn, 1) := by decide +kernel
theorem dX5_width_31 : decode mX5_width.2.1 31 = .ok (.aload_n 0, 1) := by decide +kernel
theorem dX5_width_32 : decode mX5_width.2.1 32 = .ok (.getfield 25, 3) := by decide +kernel
theorem dX5_width_35 : decode mX5_width.2.1 35 = .ok (.getfield 159, 3) := by decide +kernel
theorem dX5_width_38 : decode mX5_width.2.1 38 = .ok (.iload_n 1, 1) := by decide +kernel
theorem dX5_width_39 : decode mX5_width.2.1 39 = .ok (.iaload, 1) := by decide +kernel
theorem dX5_width_40 : decode mX5_width.2.1 40 = .ok (.istore_n 3, 1) := by decide +kernel
theorem dX5_width_41 : decode mX5_width.2.1 41 = .ok (.aload_n 0, 1) := by decide +kernel
theorem dX5_width_42 : decode mX5_width.2.1 42 = .ok (.getfield 25, 3) := by decide +kernel
theorem dX5_width_45 : decode mX5_width.2.1 45 = .ok (.getfield 159, 3) := by decide +kernel
theorem dX5_width_48 : decode mX5_width.2.1 48 = .ok (.iload_n 1, 1) := by decide +kernel
theorem dX5_width_49 : decode mX5_width.2.1 49 = .ok (.iload_n 2, 1) := by decide +kernel
theorem dX5_width_50 : decode mX5_width.2.1 50 = .ok (.iastore, 1) := by decide +kernel
theorem dX5_width_51 : decode mX5_width.2.1 51 = .ok (.iload_n 3, 1) := by decide +kernel
theorem dX5_width_52 : decode mX5_width.2.1 52 = .ok (.ireturn, 1) := by decide +kernel
theorem dX5_sign_0 : decode mX5_sign.2.1 0 = .ok (.iload_n 1, 1) := by decide +kernel
theorem dX5_sign_1 : decode mX5_sign.2.1 1 = .ok (.invokestatic 156, 3) := by decide +kernel
theorem dX5_sign_4 : decode mX5_sign.2.1 4 = .ok (.ifCond .ne 6, 3) := by decide +kernel
theorem dX5_sign_7 : decode mX5_sign.2.1 7 = .ok (.bipush (-2), 2) := by decide +kernel
theorem dX5_sign_9 : decode mX5_sign.2.1 9 = .ok (.ireturn, 1) := by decide +kernel
theorem dX5_sign_10 : decode mX5_sign.2.1 10 = .ok (.aload_n 0, 1) := by decide +kernel
theorem dX5_sign_11 : decode mX5_sign.2.1 11 = .ok (.getfield 25, 3) := by decide +kernel
theorem dX5_sign_14 : decode mX5_sign.2.1 14 = .ok (.iload_n 1, 1) := by decide +kernel
theorem dX5_sign_15 : decode mX5_sign.2.1 15 = .ok (.invokevirtual 162, 3) := by decide +kernel
theorem dX5_sign_18 : decode mX5_sign.2.1 18 = .ok (.ireturn, 1) := by decide +kernel
theorem dX5_wipe_0 : decode mX5_wipe.2.1 0 = .ok (.aload_n 0, 1) := by decide +kernel
theorem dX5_wipe_1 : decode mX5_wipe.2.1 1 = .ok (.getfield 25, 3) := by decide +kernel
theorem dX5_wipe_4 : decode mX5_wipe.2.1 4 = .ok (.getfield 165, 3) := by decide +kernel
theorem dX5_wipe_7 : decode mX5_wipe.2.1 7 = .ok (.istore_n 1, 1) := by decide +kernel
theorem dX5_wipe_8 : decode mX5_wipe.2.1 8 = .ok (.aload_n 0, 1) := by decide +kernel
theorem dX5_wipe_9 : decode mX5_wipe.2.1 9 = .ok (.getfield 25, 3) := by decide +kernel
theorem dX5_wipe_12 : decode mX5_wipe.2.1 12 = .ok (.iconst 0, 1) := by decide +kernel
theorem dX5_wipe_13 : decode mX5_wipe.2.1 13 = .ok (.putfield 165, 3) := by decide +kernel
theorem dX5_wipe_16 : decode mX5_wipe.2.1 16 = .ok (.iload_n 1, 1) := by decide +kernel
theorem dX5_wipe_17 : decode mX5_wipe.2.1 17 = .ok (.ireturn, 1) := by decide +kernel
theorem dX5_broken_0 : decode mX5_broken.2.1 0 = .ok (.iload_n 1, 1) := by decide +kernel
theorem dX5_broken_1 : decode mX5_broken.2.1 1 = .ok (.iconst 1, 1) := by decide +kernel
theorem dX5_broken_2 : decode mX5_broken.2.1 2 = .ok (.sipush 400, 3) := by decide +kernel
theorem dX5_broken_5 : decode mX5_broken.2.1 5 = .ok (.invokestatic 57, 3) := by decide +kernel
theorem dX5_broken_8 : decode mX5_broken.2.1 8 = .ok (.ifCond .eq 13, 3) := by decide +kernel
theorem dX5_broken_11 : decode mX5_broken.2.1 11 = .ok (.iload_n 2, 1) := by decide +kernel
theorem dX5_broken_12 : decode mX5_broken.2.1 12 = .ok (.iconst 1, 1) := by decide +kernel
theorem dX5_broken_13 : decode mX5_broken.2.1 13 = .ok (.bipush 6, 2) := by decide +kernel
theorem dX5_broken_15 : decode mX5_broken.2.1 15 = .ok (.invokestatic 57, 3) := by decide +kernel
theorem dX5_broken_18 : decode mX5_broken.2.1 18 = .ok (.ifCond .ne 6, 3) := by decide +kernel
theorem dX5_broken_21 : decode mX5_broken.2.1 21 = .ok (.bipush (-3), 2) := by decide +kernel
theorem dX5_broken_23 : decode mX5_broken.2.1 23 = .ok (.ireturn, 1) := by decide +kernel
theorem dX5_broken_24 : decode mX5_broken.2.1 24 = .ok (.aload_n 0, 1) := by decide +kernel
theorem dX5_broken_25 : decode mX5_broken.2.1 25 = .ok (.getfield 25, 3) := by decide +kernel
theorem dX5_broken_28 : decode mX5_broken.2.1 28 = .ok (.iload_n 1, 1) := by decide +kernel
theorem dX5_broken_29 : decode mX5_broken.2.1 29 = .ok (.iload_n 2, 1) := by decide +kernel
theorem dX5_broken_30 : decode mX5_broken.2.1 30 = .ok (.invokevirtual 168, 3) := by decide +kernel
theorem dX5_broken_33 : decode mX5_broken.2.1 33 = .ok (.ireturn, 1) := by decide +kernel
theorem dX5_line_0 : decode mX5_line.2.1 0 = .ok (.iload_n 1, 1) := by decide +kernel
theorem dX5_line_1 : decode mX5_line.2.1 1 = .ok (.iconst 0, 1) := by decide +kernel
theorem dX5_line_2 : decode mX5_line.2.1 2 = .ok (.aload_n 0, 1) := by decide +kernel
theorem dX5_line_3 : decode mX5_line.2.1 3 = .ok (.getfield 25, 3) := by decide +kernel
theorem dX5_line_6 : decode mX5_line.2.1 6 = .ok (.getfield 171, 3) := by decide +kernel
theorem dX5_line_9 : decode mX5_line.2.1 9 = .ok (.iconst 1, 1) := by decide +kernel
theorem dX5_line_10 : decode mX5_line.2.1 10 = .ok (.isub, 1) := by decide +kernel
theorem dX5_line_11 : decode mX5_line.2.1 11 = .ok (.invokestatic 57, 3) := by decide +kernel
theorem dX5_line_14 : decode mX5_line.2.1 14 = .ok (.ifCond .ne 6, 3) := by decide +kernel
theorem dX5_line_17 : decode mX5_line.2.1 17 = .ok (.bipush (-3), 2) := by decide +kernel
theorem dX5_line_19 : decode mX5_line.2.1 19 = .ok (.ireturn, 1) := by decide +kernel
theorem dX5_line_20 : decode mX5_line.2.1 20 = .ok (.aload_n 0, 1) := by decide +kernel
theorem dX5_line_21 : decode mX5_line.2.1 21 = .ok (.getfield 25, 3) := by decide +kernel
theorem dX5_line_24 : decode mX5_line.2.1 24 = .ok (.getfield 174, 3) := by decide +kernel
theorem dX5_line_27 : decode mX5_line.2.1 27 = .ok (.iload_n 1, 1) := by decide +kernel
theorem dX5_line_28 : decode mX5_line.2.1 28 = .ok (.iaload, 1) := by decide +kernel
theorem dX5_line_29 : decode mX5_line.2.1 29 = .ok (.ireturn, 1) := by decide +kernel
theorem dX5_stamp_0 : decode mX5_stamp.2.1 0 = .ok (.aload_n 0, 1) := by decide +kernel
theorem dX5_stamp_1 : decode mX5_stamp.2.1 1 = .ok (.getfield 25, 3) := by decide +kernel
theorem dX5_stamp_4 : decode mX5_stamp.2.1 4 = .ok (.invokevirtual 177, 3) := by decide +kernel
theorem dX5_stamp_7 : decode mX5_stamp.2.1 7 = .ok (.istore_n 1, 1) := by decide +kernel
theorem dX5_stamp_8 : decode mX5_stamp.2.1 8 = .ok (.iload_n 1, 1) := by decide +kernel
theorem dX5_stamp_9 : decode mX5_stamp.2.1 9 = .ok (.ifCond .ne 6, 3) := by decide +kernel
theorem dX5_stamp_12 : decode mX5_stamp.2.1 12 = .ok (.bipush (-4), 2) := by decide +kernel
theorem dX5_stamp_14 : decode mX5_stamp.2.1 14 = .ok (.ireturn, 1) := by decide +kernel
theorem dX5_stamp_15 : decode mX5_stamp.2.1 15 = .ok (.aload_n 0, 1) := by decide +kernel
theorem dX5_stamp_16 : decode mX5_stamp.2.1 16 = .ok (.getfield 25, 3) := by decide +kernel
theorem dX5_stamp_19 : decode mX5_stamp.2.1 19 = .ok (.invokevirtual 180, 3) := by decide +kernel
theorem dX5_stamp_22 : decode mX5_stamp.2.1 22 = .ok (.ifCond .eq 6, 3) := by decide +kernel
theorem dX5_stamp_25 : decode mX5_stamp.2.1 25 = .ok (.bipush (-5), 2) := by decide +kernel
theorem dX5_stamp_27 : decode mX5_stamp.2.1 27 = .ok (.ireturn, 1) := by decide +kernel
theorem dX5_stamp_28 : decode mX5_stamp.2.1 28 = .ok (.aload_n 0, 1) := by decide +kernel
theorem dX5_stamp_29 : decode mX5_stamp.2.1 29 = .ok (.getfield 25, 3) := by decide +kernel
theorem dX5_stamp_32 : decode mX5_stamp.2.1 32 = .ok (.invokevirtual 183, 3) := by decide +kernel
theorem dX5_stamp_35 : decode mX5_stamp.2.1 35 = .ok (.iload_n 1, 1) := by decide +kernel
theorem dX5_stamp_36 : decode mX5_stamp.2.1 36 = .ok (.ireturn, 1) := by decide +kernel
theorem dX5_sharpen_0 : decode mX5_sharpen.2.1 0 = .ok (.iload_n 1, 1) := by decide +kernel
theorem dX5_sharpen_1 : decode mX5_sharpen.2.1 1 = .ok (.iconst 1, 1) := by decide +kernel
theorem dX5_sharpen_2 : decode mX5_sharpen.2.1 2 = .ok (.bipush 26, 2) := by decide +kernel
theorem dX5_sharpen_4 : decode mX5_sharpen.2.1 4 = .ok (.invokestatic 57, 3) := by decide +kernel
theorem dX5_sharpen_7 : decode mX5_sharpen.2.1 7 = .ok (.ifCond .ne 6, 3) := by decide +kernel
theorem dX5_sharpen_10 : decode mX5_sharpen.2.1 10 = .ok (.bipush (-2), 2) := by decide +kernel
theorem dX5_sharpen_12 : decode mX5_sharpen.2.1 12 = .ok (.ireturn, 1) := by decide +kernel
theorem dX5_sharpen_13 : decode mX5_sharpen.2.1 13 = .ok (.aload_n 0, 1) := by decide +kernel
theorem dX5_sharpen_14 : decode mX5_sharpen.2.1 14 = .ok (.getfield 25, 3) := by decide +kernel
theorem dX5_sharpen_17 : decode mX5_sharpen.2.1 17 = .ok (.getfield 186, 3) := by decide +kernel
theorem dX5_sharpen_20 : decode mX5_sharpen.2.1 20 = .ok (.iload_n 1, 1) := by decide +kernel
theorem dX5_sharpen_21 : decode mX5_sharpen.2.1 21 = .ok (.iaload, 1) := by decide +kernel
theorem dX5_sharpen_22 : decode mX5_sharpen.2.1 22 = .ok (.istore_n 2, 1) := by decide +kernel
theorem dX5_sharpen_23 : decode mX5_sharpen.2.1 23 = .ok (.aload_n 0, 1) := by decide +kernel
theorem dX5_sharpen_24 : decode mX5_sharpen.2.1 24 = .ok (.getfield 25, 3) := by decide +kernel
theorem dX5_sharpen_27 : decode mX5_sharpen.2.1 27 = .ok (.getfield 186, 3) := by decide +kernel
theorem dX5_sharpen_30 : decode mX5_sharpen.2.1 30 = .ok (.iload_n 1, 1) := by decide +kernel
theorem dX5_sharpen_31 : decode mX5_sharpen.2.1 31 = .ok (.iconst 0, 1) := by decide +kernel
theorem dX5_sharpen_32 : decode mX5_sharpen.2.1 32 = .ok (.iastore, 1) := by decide +kernel
theorem dX5_sharpen_33 : decode mX5_sharpen.2.1 33 = .ok (.iload_n 2, 1) := by decide +kernel
theorem dX5_sharpen_34 : decode mX5_sharpen.2.1 34 = .ok (.ireturn, 1) := by decide +kernel
theorem dX5_last_0 : decode mX5_last.2.1 0 = .ok (.iload_n 1, 1) := by decide +kernel
theorem dX5_last_1 : decode mX5_last.2.1 1 = .ok (.iconst 1, 1) := by decide +kernel
theorem dX5_last_2 : decode mX5_last.2.1 2 = .ok (.sipush 1000, 3) := by decide +kernel
theorem dX5_last_5 : decode mX5_last.2.1 5 = .ok (.invokestatic 57, 3) := by decide +kernel
theorem dX5_last_8 : decode mX5_last.2.1 8 = .ok (.ifCond .ne 6, 3) := by decide +kernel
theorem dX5_last_11 : decode mX5_last.2.1 11 = .ok (.bipush (-3), 2) := by decide +kernel
theorem dX5_last_13 : decode mX5_last.2.1 13 = .ok (.ireturn, 1) := by decide +kernel
theorem dX5_last_14 : decode mX5_last.2.1 14 = .ok (.aload_n 0, 1) := by decide +kernel
theorem dX5_last_15 : decode mX5_last.2.1 15 = .ok (.getfield 25, 3) := by decide +kernel
theorem dX5_last_18 : decode mX5_last.2.1 18 = .ok (.getfield 189, 3) := by decide +kernel
theorem dX5_last_21 : decode mX5_last.2.1 21 = .ok (.istore_n 2, 1) := by decide +kernel
theorem dX5_last_22 : decode mX5_last.2.1 22 = .ok (.aload_n 0, 1) := by decide +kernel
theorem dX5_last_23 : decode mX5_last.2.1 23 = .ok (.getfield 25, 3) := by decide +kernel
theorem dX5_last_26 : decode mX5_last.2.1 26 = .ok (.iload_n 1, 1) := by decide +kernel
theorem dX5_last_27 : decode mX5_last.2.1 27 = .ok (.putfield 189, 3) := by decide +kernel
theorem dX5_last_30 : decode mX5_last.2.1 30 = .ok (.iload_n 2, 1) := by decide +kernel
theorem dX5_last_31 : decode mX5_last.2.1 31 = .ok (.ireturn, 1) := by decide +kernel
theorem dX5_skin_0 : decode mX5_skin.2.1 0 = .ok (.iload_n 1, 1) := by decide +kernel
theorem dX5_skin_1 : decode mX5_skin.2.1 1 = .ok (.iload_n 2, 1) := by decide +kernel
theorem dX5_skin_2 : decode mX5_skin.2.1 2 = .ok (.invokestatic 192, 3) := by decide +kernel
theorem dX5_skin_5 : decode mX5_skin.2.1 5 = .ok (.ifCond .eq 13, 3) := by decide +kernel
theorem dX5_skin_8 : decode mX5_skin.2.1 8 = .ok (.iload_n 3, 1) := by decide +kernel
theorem dX5_skin_9 : decode mX5_skin.2.1 9 = .ok (.iconst 0, 1) := by decide +kernel
theorem dX5_skin_10 : decode mX5_skin.2.1 10 = .ok (.bipush 9, 2) := by decide +kernel
theorem dX5_skin_12 : decode mX5_skin.2.1 12 = .ok (.invokestatic 57, 3) := by decide +kernel
theorem dX5_skin_15 : decode mX5_skin.2.1 15 = .ok (.ifCond .ne 6, 3) := by decide +kernel
theorem dX5_skin_18 : decode mX5_skin.2.1 18 = .ok (.bipush (-3), 2) := by decide +kernel
theorem dX5_skin_20 : decode mX5_skin.2.1 20 = .ok (.ireturn, 1) := by decide +kernel
theorem dX5_skin_21 : decode mX5_skin.2.1 21 = .ok (.aload_n 0, 1) := by decide +kernel
theorem dX5_skin_22 : decode mX5_skin.2.1 22 = .ok (.getfield 46, 3) := by decide +kernel
theorem dX5_skin_25 : decode mX5_skin.2.1 25 = .ok (.bipush 6, 2) := by decide +kernel
theorem dX5_skin_27 : decode mX5_skin.2.1 27 = .ok (.if_icmp .lt 6, 3) := by decide +kernel
theorem dX5_skin_30 : decode mX5_skin.2.1 30 = .ok (.bipush (-6), 2) := by decide +kernel
theorem dX5_skin_32 : decode mX5_skin.2.1 32 = .ok (.ireturn, 1) := by decide +kernel
theorem dX5_skin_33 : decode mX5_skin.2.1 33 = .ok (.aload_n 0, 1) := by decide +kernel
theorem dX5_skin_34 : decode mX5_skin.2.1 34 = .ok (.getfield 31, 3) := by decide +kernel
theorem dX5_skin_37 : decode mX5_skin.2.1 37 = .ok (.aload_n 0, 1) := by decide +kernel
theorem dX5_skin_38 : decode mX5_skin.2.1 38 = .ok (.getfield 46, 3) := by decide +kernel
theorem dX5_skin_41 : decode mX5_skin.2.1 41 = .ok (.new 29, 3) := by decide +kernel
theorem dX5_skin_44 : decode mX5_skin.2.1 44 = .ok (.dup, 1) := by decide +kernel
theorem dX5_skin_45 : decode mX5_skin.2.1 45 = .ok (.iload_n 1, 1) := by decide +kernel
theorem dX5_skin_46 : decode mX5_skin.2.1 46 = .ok (.iload_n 2, 1) := by decide +kernel
theorem dX5_skin_47 : decode mX5_skin.2.1 47 = .ok (.iload_n 3, 1) := by decide +kernel
theorem dX5_skin_48 : decode mX5_skin.2.1 48 = .ok (.invokespecial 195, 3) := by decide +kernel
theorem dX5_skin_51 : decode mX5_skin.2.1 51 = .ok (.aastore, 1) := by decide +kernel
theorem dX5_skin_52 : decode mX5_skin.2.1 52 = .ok (.aload_n 0, 1) := by decide +kernel
theorem dX5_skin_53 : decode mX5_skin.2.1 53 = .ok (.dup, 1) := by decide +kernel
theorem dX5_skin_54 : decode mX5_skin.2.1 54 = .ok (.getfield 46, 3) := by decide +kernel
theorem dX5_skin_57 : decode mX5_skin.2.1 57 = .ok (.iconst 1, 1) := by decide +kernel
theorem dX5_skin_58 : decode mX5_skin.2.1 58 = .ok (.iadd, 1) := by decide +kernel
theorem dX5_skin_59 : decode mX5_skin.2.1 59 = .ok (.putfield 46, 3) := by decide +kernel
theorem dX5_skin_62 : decode mX5_skin.2.1 62 = .ok (.aload_n 0, 1) := by decide +kernel
theorem dX5_skin_63 : decode mX5_skin.2.1 63 = .ok (.getfield 46, 3) := by decide +kernel
theorem dX5_skin_66 : decode mX5_skin.2.1 66 = .ok (.iconst 1, 1) := by decide +kernel
theorem dX5_skin_67 : decode mX5_skin.2.1 67 = .ok (.isub, 1) := by decide +kernel
theorem dX5_skin_68 : decode mX5_skin.2.1 68 = .ok (.ireturn, 1) := by decide +kernel
theorem dX5_flaw_0 : decode mX5_flaw.2.1 0 = .ok (.aload_n 0, 1) := by decide +kernel
theorem dX5_flaw_1 : decode mX5_flaw.2.1 1 = .ok (.iload_n 1, 1) := by decide +kernel
theorem dX5_flaw_2 : decode mX5_flaw.2.1 2 = .ok (.invokevirtual 198, 3) := by decide +kernel
theorem dX5_flaw_5 : decode mX5_flaw.2.1 5 = .ok (.astore 4, 2) := by decide +kernel
theorem dX5_flaw_7 : decode mX5_flaw.2.1 7 = .ok (.aload 4, 2) := by decide +kernel
theorem dX5_flaw_9 : decode mX5_flaw.2.1 9 = .ok (.ifnonnull 6, 3) := by decide +kernel
theorem dX5_flaw_12 : decode mX5_flaw.2.1 12 = .ok (.bipush (-2), 2) := by decide +kernel
theorem dX5_flaw_14 : decode mX5_flaw.2.1 14 = .ok (.ireturn, 1) := by decide +kernel
theorem dX5_flaw_15 : decode mX5_flaw.2.1 15 = .ok (.aload 4, 2) := by decide +kernel
theorem dX5_flaw_17 : decode mX5_flaw.2.1 17 = .ok (.iload_n 2, 1) := by decide +kernel
theorem dX5_flaw_18 : decode mX5_flaw.2.1 18 = .ok (.iload_n 3, 1) := by decide +kernel
theorem dX5_flaw_19 : decode mX5_flaw.2.1 19 = .ok (.invokevirtual 202, 3) := by decide +kernel
theorem dX5_flaw_22 : decode mX5_flaw.2.1 22 = .ok (.ifCond .ne 6, 3) := by decide +kernel
theorem dX5_flaw_25 : decode mX5_flaw.2.1 25 = .ok (.bipush (-3), 2) := by decide +kernel
theorem dX5_flaw_27 : decode mX5_flaw.2.1 27 = .ok (.ireturn, 1) := by decide +kernel
theorem dX5_flaw_28 : decode mX5_flaw.2.1 28 = .ok (.aload 4, 2) := by decide +kernel
theorem dX5_flaw_30 : decode mX5_flaw.2.1 30 = .ok (.iload_n 2, 1) := by decide +kernel
theorem dX5_flaw_31 : decode mX5_flaw.2.1 31 = .ok (.iload_n 3, 1) := by decide +kernel
theorem dX5_flaw_32 : decode mX5_flaw.2.1 32 = .ok (.invokevirtual 204, 3) := by decide +kernel
theorem dX5_flaw_35 : decode mX5_flaw.2.1 35 = .ok (.ifCond .eq 6, 3) := by decide +kernel
theorem dX5_flaw_38 : decode mX5_flaw.2.1 38 = .ok (.bipush (-4), 2) := by decide +kernel
theorem dX5_flaw_40 : decode mX5_flaw.2.1 40 = .ok (.ireturn, 1) := by decide +kernel
theorem dX5_flaw_41 : decode mX5_flaw.2.1 41 = .ok (.aload 4, 2) := by decide +kernel
theorem dX5_flaw_43 : decode mX5_flaw.2.1 43 = .ok (.iload_n 2, 1) := by decide +kernel
theorem dX5_flaw_44 : decode mX5_flaw.2.1 44 = .ok (.iload_n 3, 1) := by decide +kernel
theorem dX5_flaw_45 : decode mX5_flaw.2.1 45 = .ok (.iconst 1, 1) := by decide +kernel
theorem dX5_flaw_46 : decode mX5_flaw.2.1 46 = .ok (.iconst 1, 1) := by decide +kernel
theorem dX5_flaw_47 : decode mX5_flaw.2.1 47 = .ok (.iconst 1, 1) := by decide +kernel
theorem dX5_flaw_48 : decode mX5_flaw.2.1 48 = .ok (.invokevirtual 207, 3) := by decide +kernel
theorem dX5_flaw_51 : decode mX5_flaw.2.1 51 = .ok (.iconst 1, 1) := by decide +kernel
theorem dX5_flaw_52 : decode mX5_flaw.2.1 52 = .ok (.ireturn, 1) := by decide +kernel
theorem dX5_cut_0 : decode mX5_cut.2.1 0 = .ok (.aload_n 0, 1) := by decide +kernel
theorem dX5_cut_1 : decode mX5_cut.2.1 1 = .ok (.iload_n 1, 1) := by decide +kernel
theorem dX5_cut_2 : decode mX5_cut.2.1 2 = .ok (.invokevirtual 198, 3) := by decide +kernel
theorem dX5_cut_5 : decode mX5_cut.2.1 5 = .ok (.astore 4, 2) := by decide +kernel
theorem dX5_cut_7 : decode mX5_cut.2.1 7 = .ok (.aload 4, 2) := by decide +kernel
theorem dX5_cut_9 : decode mX5_cut.2.1 9 = .ok (.ifnonnull 6, 3) := by decide +kernel
theorem dX5_cut_12 : decode mX5_cut.2.1 12 = .ok (.bipush (-2), 2) := by decide +kernel
theorem dX5_cut_14 : decode mX5_cut.2.1 14 = .ok (.ireturn, 1) := by decide +kernel
theorem dX5_cut_15 : decode mX5_cut.2.1 15 = .ok (.iload_n 2, 1) := by decide +kernel
theorem dX5_cut_16 : decode mX5_cut.2.1 16 = .ok (.iload_n 3, 1) := by decide +kernel
theorem dX5_cut_17 : decode mX5_cut.2.1 17 = .ok (.invokestatic 192, 3) := by decide +kernel
theorem dX5_cut_20 : decode mX5_cut.2.1 20 = .ok (.ifCond .ne 6, 3) := by decide +kernel
theorem dX5_cut_23 : decode mX5_cut.2.1 23 = .ok (.bipush (-3), 2) := by decide +kernel
theorem dX5_cut_25 : decode mX5_cut.2.1 25 = .ok (.ireturn, 1) := by decide +kernel
theorem dX5_cut_26 : decode mX5_cut.2.1 26 = .ok (.aload 4, 2) := by decide +kernel
theorem dX5_cut_28 : decode mX5_cut.2.1 28 = .ok (.iload_n 2, 1) := by decide +kernel
theorem dX5_cut_29 : decode mX5_cut.2.1 29 = .ok (.iload_n 3, 1) := by decide +kernel
theorem dX5_cut_30 : decode mX5_cut.2.1 30 = .ok (.invokevirtual 211, 3) := by decide +kernel
theorem dX5_cut_33 : decode mX5_cut.2.1 33 = .ok (.istore 5, 2) := by decide +kernel
theorem dX5_cut_35 : decode mX5_cut.2.1 35 = .ok (.iload 5, 2) := by decide +kernel
theorem dX5_cut_37 : decode mX5_cut.2.1 37 = .ok (.iconst (-1), 1) := by decide +kernel
theorem dX5_cut_38 : decode mX5_cut.2.1 38 = .ok (.if_icmp .ne 8, 3) := by decide +kernel
theorem dX5_cut_41 : decode mX5_cut.2.1 41 = .ok (.bipush (-4), 2) := by decide +kernel
theorem dX5_cut_43 : decode mX5_cut.2.1 43 = .ok (.goto 5, 3) := by decide +kernel
theorem dX5_cut_46 : decode mX5_cut.2.1 46 = .ok (.iload 5, 2) := by decide +kernel
theorem dX5_cut_48 : decode mX5_cut.2.1 48 = .ok (.ireturn, 1) := by decide +kernel
theorem dX5_covers_0 : decode mX5_covers.2.1 0 = .ok (.iload_n 1, 1) := by decide +kernel
theorem dX5_covers_1 : decode mX5_covers.2.1 1 = .ok (.iconst 0, 1) := by decide +kernel
theorem dX5_covers_2 : decode mX5_covers.2.1 2 = .ok (.bipush 9, 2) := by decide +kernel
theorem dX5_covers_4 : decode mX5_covers.2.1 4 = .ok (.invokestatic 57, 3) := by decide +kernel
theorem dX5_covers_7 : decode mX5_covers.2.1 7 = .ok (.ifCond .eq 22, 3) := by decide +kernel
theorem dX5_covers_10 : decode mX5_covers.2.1 10 = .ok (.iload_n 2, 1) := by decide +kernel
theorem dX5_covers_11 : decode mX5_covers.2.1 11 = .ok (.iload_n 3, 1) := by decide +kernel
theorem dX5_covers_12 : decode mX5_covers.2.1 12 = .ok (.invokestatic 192, 3) := by decide +kernel
theorem dX5_covers_15 : decode mX5_covers.2.1 15 = .ok (.ifCond .eq 14, 3) := by decide +kernel
theorem dX5_covers_18 : decode mX5_covers.2.1 18 = .ok (.iload 4, 2) := by decide +kernel
theorem dX5_covers_20 : decode mX5_covers.2.1 20 = .ok (.iconst 1, 1) := by decide +kernel
theorem dX5_covers_21 : decode mX5_covers.2.1 21 = .ok (.bipush 8, 2) := by decide +kernel
theorem dX5_covers_23 : decode mX5_covers.2.1 23 = .ok (.invokestatic 57, 3) := by decide +kernel
theorem dX5_covers_26 : decode mX5_covers.2.1 26 = .ok (.ifCond .ne 6, 3) := by decide +kernel
theorem dX5_covers_29 : decode mX5_covers.2.1 29 = .ok (.bipush (-3), 2) := by decide +kernel
theorem dX5_covers_31 : decode mX5_covers.2.1 31 = .ok (.ireturn, 1) := by decide +kernel
theorem dX5_covers_32 : decode mX5_covers.2.1 32 = .ok (.iload 4, 2) := by decide +kernel
theorem dX5_covers_34 : decode mX5_covers.2.1 34 = .ok (.istore 5, 2) := by decide +kernel
theorem dX5_covers_36 : decode mX5_covers.2.1 36 = .ok (.iconst 0, 1) := by decide +kernel
theorem dX5_covers_37 : decode mX5_covers.2.1 37 = .ok (.istore 6, 2) := by decide +kernel
theorem dX5_covers_39 : decode mX5_covers.2.1 39 = .ok (.iconst 0, 1) := by decide +kernel
theorem dX5_covers_40 : decode mX5_covers.2.1 40 = .ok (.istore 7, 2) := by decide +kernel
theorem dX5_covers_42 : decode mX5_covers.2.1 42 = .ok (.iload 7, 2) := by decide +kernel
theorem dX5_covers_44 : decode mX5_covers.2.1 44 = .ok (.aload_n 0, 1) := by decide +kernel
theorem dX5_covers_45 : decode mX5_covers.2.1 45 = .ok (.getfield 46, 3) := by decide +kernel
theorem dX5_covers_48 : decode mX5_covers.2.1 48 = .ok (.if_icmp .ge 64, 3) := by decide +kernel
theorem dX5_covers_51 : decode mX5_covers.2.1 51 = .ok (.aload_n 0, 1) := by decide +kernel
theorem dX5_covers_52 : decode mX5_covers.2.1 52 = .ok (.iload 7, 2) := by decide +kernel
theorem dX5_covers_54 : decode mX5_covers.2.1 54 = .ok (.invokevirtual 198, 3) := by decide +kernel
theorem dX5_covers_57 : decode mX5_covers.2.1 57 = .ok (.astore 8, 2) := by decide +kernel
theorem dX5_covers_59 : decode mX5_covers.2.1 59 = .ok (.aload 8, 2) := by decide +kernel
theorem dX5_covers_61 : decode mX5_covers.2.1 61 = .ok (.ifnull 45, 3) := by decide +kernel
theorem dX5_covers_64 : decode mX5_covers.2.1 64 = .ok (.aload 8, 2) := by decide +kernel
theorem dX5_covers_66 : decode mX5_covers.2.1 66 = .ok (.getfield 214, 3) := by decide +kernel
theorem dX5_covers_69 : decode mX5_covers.2.1 69 = .ok (.iload_n 1, 1) := by decide +kernel
theorem dX5_covers_70 : decode mX5_covers.2.1 70 = .ok (.if_icmp .ne 36, 3) := by decide +kernel
theorem dX5_covers_73 : decode mX5_covers.2.1 73 = .ok (.aload 8, 2) := by decide +kernel
theorem dX5_covers_75 : decode mX5_covers.2.1 75 = .ok (.iload_n 2, 1) := by decide +kernel
theorem dX5_covers_76 : decode mX5_covers.2.1 76 = .ok (.iload_n 3, 1) := by decide +kernel
theorem dX5_covers_77 : decode mX5_covers.2.1 77 = .ok (.iload 5, 2) := by decide +kernel
theorem dX5_covers_79 : decode mX5_covers.2.1 79 = .ok (.invokevirtual 217, 3) := by decide +kernel
theorem dX5_covers_82 : decode mX5_covers.2.1 82 = .ok (.istore 9, 2) := by decide +kernel
theorem dX5_covers_84 : decode mX5_covers.2.1 84 = .ok (.iload 5, 2) := by decide +kernel
theorem dX5_covers_86 : decode mX5_covers.2.1 86 = .ok (.iload 9, 2) := by decide +kernel
theorem dX5_covers_88 : decode mX5_covers.2.1 88 = .ok (.isub, 1) := by decide +kernel
theorem dX5_covers_89 : decode mX5_covers.2.1 89 = .ok (.istore 5, 2) := by decide +kernel
theorem dX5_covers_91 : decode mX5_covers.2.1 91 = .ok (.iload 6, 2) := by decide +kernel
theorem dX5_covers_93 : decode mX5_covers.2.1 93 = .ok (.iload 9, 2) := by decide +kernel
theorem dX5_covers_95 : decode mX5_covers.2.1 95 = .ok (.ifCond .le 7, 3) := by decide +kernel
theorem dX5_covers_98 : decode mX5_covers.2.1 98 = .ok (.iconst 1, 1) := by decide +kernel
theorem dX5_covers_99 : decode mX5_covers.2.1 99 = .ok (.goto 4, 3) := by decide +kernel
theorem dX5_covers_102 : decode mX5_covers.2.1 102 = .ok (.iconst 0, 1) := by decide +kernel
theorem dX5_covers_103 : decode mX5_covers.2.1 103 = .ok (.iadd, 1) := by decide +kernel
theorem dX5_covers_104 : decode mX5_covers.2.1 104 = .ok (.istore 6, 2) := by decide +kernel
theorem dX5_covers_106 : decode mX5_covers.2.1 106 = .ok (.iinc 7 1, 3) := by decide +kernel
theorem dX5_covers_109 : decode mX5_covers.2.1 109 = .ok (.goto (-67), 3) := by decide +kernel
theorem dX5_covers_112 : decode mX5_covers.2.1 112 = .ok (.iload 5, 2) := by decide +kernel
theorem dX5_covers_114 : decode mX5_covers.2.1 114 = .ok (.ifCond .le 11, 3) := by decide +kernel
theorem dX5_covers_117 : decode mX5_covers.2.1 117 = .ok (.aload_n 0, 1) := by decide +kernel
theorem dX5_covers_118 : decode mX5_covers.2.1 118 = .ok (.iload_n 1, 1) := by decide +kernel
theorem dX5_covers_119 : decode mX5_covers.2.1 119 = .ok (.invokevirtual 221, 3) := by decide +kernel
theorem dX5_covers_122 : decode mX5_covers.2.1 122 = .ok (.bipush (-4), 2) := by decide +kernel
theorem dX5_covers_124 : decode mX5_covers.2.1 124 = .ok (.ireturn, 1) := by decide +kernel
theorem dX5_covers_125 : decode mX5_covers.2.1 125 = .ok (.iload 6, 2) := by decide +kernel
theorem dX5_covers_127 : decode mX5_covers.2.1 127 = .ok (.ireturn, 1) := by decide +kernel
theorem dX5_spot_0 : decode mX5_spot.2.1 0 = .ok (.aload_n 0, 1) := by decide +kernel
theorem dX5_spot_1 : decode mX5_spot.2.1 1 = .ok (.iload_n 1, 1) := by decide +kernel
theorem dX5_spot_2 : decode mX5_spot.2.1 2 = .ok (.invokevirtual 198, 3) := by decide +kernel
theorem dX5_spot_5 : decode mX5_spot.2.1 5 = .ok (.astore 4, 2) := by decide +kernel
theorem dX5_spot_7 : decode mX5_spot.2.1 7 = .ok (.aload 4, 2) := by decide +kernel
theorem dX5_spot_9 : decode mX5_spot.2.1 9 = .ok (.ifnonnull 6, 3) := by decide +kernel
theorem dX5_spot_12 : decode mX5_spot.2.1 12 = .ok (.bipush (-2), 2) := by decide +kernel
theorem dX5_spot_14 : decode mX5_spot.2.1 14 = .ok (.ireturn, 1) := by decide +kernel
theorem dX5_spot_15 : decode mX5_spot.2.1 15 = .ok (.aload 4, 2) := by decide +kernel
theorem dX5_spot_17 : decode mX5_spot.2.1 17 = .ok (.iload_n 2, 1) := by decide +kernel
theorem dX5_spot_18 : decode mX5_spot.2.1 18 = .ok (.iload_n 3, 1) := by decide +kernel
theorem dX5_spot_19 : decode mX5_spot.2.1 19 = .ok (.invokevirtual 202, 3) := by decide +kernel
theorem dX5_spot_22 : decode mX5_spot.2.1 22 = .ok (.ifCond .ne 6, 3) := by decide +kernel
theorem dX5_spot_25 : decode mX5_spot.2.1 25 = .ok (.bipush (-3), 2) := by decide +kernel
theorem dX5_spot_27 : decode mX5_spot.2.1 27 = .ok (.ireturn, 1) := by decide +kernel
theorem dX5_spot_28 : decode mX5_spot.2.1 28 = .ok (.aload 4, 2) := by decide +kernel
theorem dX5_spot_30 : decode mX5_spot.2.1 30 = .ok (.iload_n 2, 1) := by decide +kernel
theorem dX5_spot_31 : decode mX5_spot.2.1 31 = .ok (.iload_n 3, 1) := by decide +kernel
theorem dX5_spot_32 : decode mX5_spot.2.1 32 = .ok (.invokevirtual 204, 3) := by decide +kernel
theorem dX5_spot_35 : decode mX5_spot.2.1 35 = .ok (.ireturn, 1) := by decide +kernel
theorem dX5_days_0 : decode mX5_days.2.1 0 = .ok (.iload_n 1, 1) := by decide +kernel
theorem dX5_days_1 : decode mX5_days.2.1 1 = .ok (.iconst 1, 1) := by decide +kernel
theorem dX5_days_2 : decode mX5_days.2.1 2 = .ok (.bipush 100, 2) := by decide +kernel
theorem dX5_days_4 : decode mX5_days.2.1 4 = .ok (.invokestatic 57, 3) := by decide +kernel
theorem dX5_days_7 : decode mX5_days.2.1 7 = .ok (.ifCond .eq 15, 3) := by decide +kernel
theorem dX5_days_10 : decode mX5_days.2.1 10 = .ok (.aload_n 0, 1) := by decide +kernel
theorem dX5_days_11 : decode mX5_days.2.1 11 = .ok (.getfield 49, 3) := by decide +kernel
theorem dX5_days_14 : decode mX5_days.2.1 14 = .ok (.iload_n 1, 1) := by decide +kernel
theorem dX5_days_15 : decode mX5_days.2.1 15 = .ok (.iadd, 1) := by decide +kernel
theorem dX5_days_16 : decode mX5_days.2.1 16 = .ok (.sipush 1000, 3) := by decide +kernel
theorem dX5_days_19 : decode mX5_days.2.1 19 = .ok (.if_icmp .le 6, 3) := by decide +kernel
theorem dX5_days_22 : decode mX5_days.2.1 22 = .ok (.bipush (-3), 2) := by decide +kernel
theorem dX5_days_24 : decode mX5_days.2.1 24 = .ok (.ireturn, 1) := by decide +kernel
theorem dX5_days_25 : decode mX5_days.2.1 25 = .ok (.aload_n 0, 1) := by decide +kernel
theorem dX5_days_26 : decode mX5_days.2.1 26 = .ok (.dup, 1) := by decide +kernel
theorem dX5_days_27 : decode mX5_days.2.1 27 = .ok (.getfield 49, 3) := by decide +kernel
theorem dX5_days_30 : decode mX5_days.2.1 30 = .ok (.iload_n 1, 1) := by decide +kernel
theorem dX5_days_31 : decode mX5_days.2.1 31 = .ok (.iadd, 1) := by decide +kernel
theorem dX5_days_32 : decode mX5_days.2.1 32 = .ok (.putfield 49, 3) := by decide +kernel
theorem dX5_days_35 : decode mX5_days.2.1 35 = .ok (.aload_n 0, 1) := by decide +kernel
theorem dX5_days_36 : decode mX5_days.2.1 36 = .ok (.getfield 49, 3) := by decide +kernel
theorem dX5_days_39 : decode mX5_days.2.1 39 = .ok (.ireturn, 1) := by decide +kernel
theorem dX5_rate_0 : decode mX5_rate.2.1 0 = .ok (.iload_n 1, 1) := by decide +kernel
theorem dX5_rate_1 : decode mX5_rate.2.1 1 = .ok (.invokestatic 105, 3) := by decide +kernel
theorem dX5_rate_4 : decode mX5_rate.2.1 4 = .ok (.ifCond .ne 6, 3) := by decide +kernel
theorem dX5_rate_7 : decode mX5_rate.2.1 7 = .ok (.bipush (-2), 2) := by decide +kernel
theorem dX5_rate_9 : decode mX5_rate.2.1 9 = .ok (.ireturn, 1) := by decide +kernel
theorem dX5_rate_10 : decode mX5_rate.2.1 10 = .ok (.iload_n 2, 1) := by decide +kernel
theorem dX5_rate_11 : decode mX5_rate.2.1 11 = .ok (.invokestatic 225, 3) := by decide +kernel
theorem dX5_rate_14 : decode mX5_rate.2.1 14 = .ok (.ifCond .eq 14, 3) := by decide +kernel
theorem dX5_rate_17 : decode mX5_rate.2.1 17 = .ok (.iload_n 3, 1) := by decide +kernel
theorem dX5_rate_18 : decode mX5_rate.2.1 18 = .ok (.iconst 0, 1) := by decide +kernel
theorem dX5_rate_19 : decode mX5_rate.2.1 19 = .ok (.sipush 500, 3) := by decide +kernel
theorem dX5_rate_22 : decode mX5_rate.2.1 22 = .ok (.invokestatic 57, 3) := by decide +kernel
theorem dX5_rate_25 : decode mX5_rate.2.1 25 = .ok (.ifCond .ne 6, 3) := by decide +kernel
theorem dX5_rate_28 : decode mX5_rate.2.1 28 = .ok (.bipush (-3), 2) := by decide +kernel
theorem dX5_rate_30 : decode mX5_rate.2.1 30 = .ok (.ireturn, 1) := by decide +kernel
theorem dX5_rate_31 : decode mX5_rate.2.1 31 = .ok (.aload_n 0, 1) := by decide +kernel
theorem dX5_rate_32 : decode mX5_rate.2.1 32 = .ok (.getfield 38, 3) := by decide +kernel
theorem dX5_rate_35 : decode mX5_rate.2.1 35 = .ok (.iload_n 1, 1) := by decide +kernel
theorem dX5_rate_36 : decode mX5_rate.2.1 36 = .ok (.iload_n 2, 1) := by decide +kernel
theorem dX5_rate_37 : decode mX5_rate.2.1 37 = .ok (.iload_n 3, 1) := by decide +kernel
theorem dX5_rate_38 : decode mX5_rate.2.1 38 = .ok (.aload_n 0, 1) := by decide +kernel
theorem dX5_rate_39 : decode mX5_rate.2.1 39 = .ok (.getfield 49, 3) := by decide +kernel
theorem dX5_rate_42 : decode mX5_rate.2.1 42 = .ok (.invokevirtual 228, 3) := by decide +kernel
theorem dX5_rate_45 : decode mX5_rate.2.1 45 = .ok (.ireturn, 1) := by decide +kernel
theorem dX5_rateAt_0 : decode mX5_rateAt.2.1 0 = .ok (.iload_n 1, 1) := by decide +kernel
theorem dX5_rateAt_1 : decode mX5_rateAt.2.1 1 = .ok (.invokestatic 105, 3) := by decide +kernel
theorem dX5_rateAt_4 : decode mX5_rateAt.2.1 4 = .ok (.ifCond .ne 6, 3) := by decide +kernel
theorem dX5_rateAt_7 : decode mX5_rateAt.2.1 7 = .ok (.bipush (-2), 2) := by decide +kernel
theorem dX5_rateAt_9 : decode mX5_rateAt.2.1 9 = .ok (.ireturn, 1) := by decide +kernel
theorem dX5_rateAt_10 : decode mX5_rateAt.2.1 10 = .ok (.iload_n 2, 1) := by decide +kernel
theorem dX5_rateAt_11 : decode mX5_rateAt.2.1 11 = .ok (.invokestatic 225, 3) := by decide +kernel
theorem dX5_rateAt_14 : decode mX5_rateAt.2.1 14 = .ok (.ifCond .eq 10, 3) := by decide +kernel
theorem dX5_rateAt_17 : decode mX5_rateAt.2.1 17 = .ok (.iload_n 3, 1) := by decide +kernel
theorem dX5_rateAt_18 : decode mX5_rateAt.2.1 18 = .ok (.invokestatic 225, 3) := by decide +kernel
theorem dX5_rateAt_21 : decode mX5_rateAt.2.1 21 = .ok (.ifCond .ne 6, 3) := by decide +kernel
theorem dX5_rateAt_24 : decode mX5_rateAt.2.1 24 = .ok (.bipush (-3), 2) := by decide +kernel
theorem dX5_rateAt_26 : decode mX5_rateAt.2.1 26 = .ok (.ireturn, 1) := by decide +kernel
theorem dX5_rateAt_27 : decode mX5_rateAt.2.1 27 = .ok (.aload_n 0, 1) := by decide +kernel
theorem dX5_rateAt_28 : decode mX5_rateAt.2.1 28 = .ok (.getfield 38, 3) := by decide +kernel
theorem dX5_rateAt_31 : decode mX5_rateAt.2.1 31 = .ok (.iload_n 1, 1) := by decide +kernel
theorem dX5_rateAt_32 : decode mX5_rateAt.2.1 32 = .ok (.iload_n 2, 1) := by decide +kernel
theorem dX5_rateAt_33 : decode mX5_rateAt.2.1 33 = .ok (.iload_n 3, 1) := by decide +kernel
theorem dX5_rateAt_34 : decode mX5_rateAt.2.1 34 = .ok (.invokevirtual 232, 3) := by decide +kernel
theorem dX5_rateAt_37 : decode mX5_rateAt.2.1 37 = .ok (.ireturn, 1) := by decide +kernel
theorem dX5_wages_0 : decode mX5_wages.2.1 0 = .ok (.iload_n 1, 1) := by decide +kernel
theorem dX5_wages_1 : decode mX5_wages.2.1 1 = .ok (.invokestatic 225, 3) := by decide +kernel
theorem dX5_wages_4 : decode mX5_wages.2.1 4 = .ok (.ifCond .eq 17, 3) := by decide +kernel
theorem dX5_wages_7 : decode mX5_wages.2.1 7 = .ok (.iload_n 2, 1) := by decide +kernel
theorem dX5_wages_8 : decode mX5_wages.2.1 8 = .ok (.invokestatic 225, 3) := by decide +kernel
theorem dX5_wages_11 : decode mX5_wages.2.1 11 = .ok (.ifCond .eq 10, 3) := by decide +kernel
theorem dX5_wages_14 : decode mX5_wages.2.1 14 = .ok (.iload_n 3, 1) := by decide +kernel
theorem dX5_wages_15 : decode mX5_wages.2.1 15 = .ok (.invokestatic 225, 3) := by decide +kernel
theorem dX5_wages_18 : decode mX5_wages.2.1 18 = .ok (.ifCond .ne 6, 3) := by decide +kernel
theorem dX5_wages_21 : decode mX5_wages.2.1 21 = .ok (.bipush (-3), 2) := by decide +kernel
theorem dX5_wages_23 : decode mX5_wages.2.1 23 = .ok (.ireturn, 1) := by decide +kernel
theorem dX5_wages_24 : decode mX5_wages.2.1 24 = .ok (.aload_n 0, 1) := by decide +kernel
theorem dX5_wages_25 : decode mX5_wages.2.1 25 = .ok (.getfield 38, 3) := by decide +kernel
theorem dX5_wages_28 : decode mX5_wages.2.1 28 = .ok (.iload_n 1, 1) := by decide +kernel
theorem dX5_wages_29 : decode mX5_wages.2.1 29 = .ok (.iload_n 2, 1) := by decide +kernel
theorem dX5_wages_30 : decode mX5_wages.2.1 30 = .ok (.iload_n 3, 1) := by decide +kernel
theorem dX5_wages_31 : decode mX5_wages.2.1 31 = .ok (.invokevirtual 235, 3) := by decide +kernel
theorem dX5_wages_34 : decode mX5_wages.2.1 34 = .ok (.ireturn, 1) := by decide +kernel
theorem dX5_count_0 : decode mX5_count.2.1 0 = .ok (.iload_n 1, 1) := by decide +kernel
theorem dX5_count_1 : decode mX5_count.2.1 1 = .ok (.tableswitch 90 0 6 #[43, 48, 53, 61, 66, 74, 82], 43) := by decide +kernel
theorem dX5_count_44 : decode mX5_count.2.1 44 = .ok (.aload_n 0, 1) := by decide +kernel
theorem dX5_count_45 : decode mX5_count.2.1 45 = .ok (.getfield 42, 3) := by decide +kernel
theorem dX5_count_48 : decode mX5_count.2.1 48 = .ok (.ireturn, 1) := by decide +kernel
theorem dX5_count_49 : decode mX5_count.2.1 49 = .ok (.aload_n 0, 1) := by decide +kernel
theorem dX5_count_50 : decode mX5_count.2.1 50 = .ok (.getfield 46, 3) := by decide +kernel
theorem dX5_count_53 : decode mX5_count.2.1 53 = .ok (.ireturn, 1) := by decide +kernel
theorem dX5_count_54 : decode mX5_count.2.1 54 = .ok (.aload_n 0, 1) := by decide +kernel
theorem dX5_count_55 : decode mX5_count.2.1 55 = .ok (.getfield 38, 3) := by decide +kernel
theorem dX5_count_58 : decode mX5_count.2.1 58 = .ok (.getfield 238, 3) := by decide +kernel
theorem dX5_count_61 : decode mX5_count.2.1 61 = .ok (.ireturn, 1) := by decide +kernel
theorem dX5_count_62 : decode mX5_count.2.1 62 = .ok (.aload_n 0, 1) := by decide +kernel
theorem dX5_count_63 : decode mX5_count.2.1 63 = .ok (.getfield 49, 3) := by decide +kernel
theorem dX5_count_66 : decode mX5_count.2.1 66 = .ok (.ireturn, 1) := by decide +kernel
theorem dX5_count_67 : decode mX5_count.2.1 67 = .ok (.aload_n 0, 1) := by decide +kernel
theorem dX5_count_68 : decode mX5_count.2.1 68 = .ok (.getfield 25, 3) := by decide +kernel
theorem dX5_count_71 : decode mX5_count.2.1 71 = .ok (.getfield 165, 3) := by decide +kernel
theorem dX5_count_74 : decode mX5_count.2.1 74 = .ok (.ireturn, 1) := by decide +kernel
theorem dX5_count_75 : decode mX5_count.2.1 75 = .ok (.aload_n 0, 1) := by decide +kernel
theorem dX5_count_76 : decode mX5_count.2.1 76 = .ok (.getfield 25, 3) := by decide +kernel
theorem dX5_count_79 : decode mX5_count.2.1 79 = .ok (.invokevirtual 241, 3) := by decide +kernel
theorem dX5_count_82 : decode mX5_count.2.1 82 = .ok (.ireturn, 1) := by decide +kernel
theorem dX5_count_83 : decode mX5_count.2.1 83 = .ok (.aload_n 0, 1) := by decide +kernel
theorem dX5_count_84 : decode mX5_count.2.1 84 = .ok (.getfield 38, 3) := by decide +kernel
theorem dX5_count_87 : decode mX5_count.2.1 87 = .ok (.getfield 244, 3) := by decide +kernel
theorem dX5_count_90 : decode mX5_count.2.1 90 = .ok (.ireturn, 1) := by decide +kernel
theorem dX5_count_91 : decode mX5_count.2.1 91 = .ok (.bipush (-3), 2) := by decide +kernel
theorem dX5_count_93 : decode mX5_count.2.1 93 = .ok (.ireturn, 1) := by decide +kernel
theorem dX5_within_0 : decode mX5_within.2.1 0 = .ok (.iload_n 0, 1) := by decide +kernel
theorem dX5_within_1 : decode mX5_within.2.1 1 = .ok (.iload_n 1, 1) := by decide +kernel
theorem dX5_within_2 : decode mX5_within.2.1 2 = .ok (.if_icmp .lt 12, 3) := by decide +kernel
theorem dX5_within_5 : decode mX5_within.2.1 5 = .ok (.iload_n 0, 1) := by decide +kernel
theorem dX5_within_6 : decode mX5_within.2.1 6 = .ok (.iload_n 2, 1) := by decide +kernel
theorem dX5_within_7 : decode mX5_within.2.1 7 = .ok (.if_icmp .gt 7, 3) := by decide +kernel
theorem dX5_within_10 : decode mX5_within.2.1 10 = .ok (.iconst 1, 1) := by decide +kernel
theorem dX5_within_11 : decode mX5_within.2.1 11 = .ok (.goto 4, 3) := by decide +kernel
theorem dX5_within_14 : decode mX5_within.2.1 14 = .ok (.iconst 0, 1) := by decide +kernel
theorem dX5_within_15 : decode mX5_within.2.1 15 = .ok (.ireturn, 1) := by decide +kernel
theorem dX5_isBench_0 : decode mX5_isBench.2.1 0 = .ok (.iload_n 0, 1) := by decide +kernel
theorem dX5_isBench_1 : decode mX5_isBench.2.1 1 = .ok (.iconst 0, 1) := by decide +kernel
theorem dX5_isBench_2 : decode mX5_isBench.2.1 2 = .ok (.iconst 4, 1) := by decide +kernel
theorem dX5_isBench_3 : decode mX5_isBench.2.1 3 = .ok (.invokestatic 57, 3) := by decide +kernel
theorem dX5_isBench_6 : decode mX5_isBench.2.1 6 = .ok (.ireturn, 1) := by decide +kernel
theorem dX5_isSign_0 : decode mX5_isSign.2.1 0 = .ok (.iload_n 0, 1) := by decide +kernel
theorem dX5_isSign_1 : decode mX5_isSign.2.1 1 = .ok (.iconst 0, 1) := by decide +kernel
theorem dX5_isSign_2 : decode mX5_isSign.2.1 2 = .ok (.bipush 26, 2) := by decide +kernel
theorem dX5_isSign_4 : decode mX5_isSign.2.1 4 = .ok (.invokestatic 57, 3) := by decide +kernel
theorem dX5_isSign_7 : decode mX5_isSign.2.1 7 = .ok (.ireturn, 1) := by decide +kernel
theorem dX5_isSize_0 : decode mX5_isSize.2.1 0 = .ok (.iload_n 0, 1) := by decide +kernel
theorem dX5_isSize_1 : decode mX5_isSize.2.1 1 = .ok (.iconst 1, 1) := by decide +kernel
theorem dX5_isSize_2 : decode mX5_isSize.2.1 2 = .ok (.bipush 12, 2) := by decide +kernel
theorem dX5_isSize_4 : decode mX5_isSize.2.1 4 = .ok (.invokestatic 57, 3) := by decide +kernel
theorem dX5_isSize_7 : decode mX5_isSize.2.1 7 = .ok (.ifCond .eq 17, 3) := by decide +kernel
theorem dX5_isSize_10 : decode mX5_isSize.2.1 10 = .ok (.iload_n 1, 1) := by decide +kernel
theorem dX5_isSize_11 : decode mX5_isSize.2.1 11 = .ok (.iconst 1, 1) := by decide +kernel
theorem dX5_isSize_12 : decode mX5_isSize.2.1 12 = .ok (.bipush 12, 2) := by decide +kernel
theorem dX5_isSize_14 : decode mX5_isSize.2.1 14 = .ok (.invokestatic 57, 3) := by decide +kernel
theorem dX5_isSize_17 : decode mX5_isSize.2.1 17 = .ok (.ifCond .eq 7, 3) := by decide +kernel
theorem dX5_isSize_20 : decode mX5_isSize.2.1 20 = .ok (.iconst 1, 1) := by decide +kernel
theorem dX5_isSize_21 : decode mX5_isSize.2.1 21 = .ok (.goto 4, 3) := by decide +kernel
theorem dX5_isSize_24 : decode mX5_isSize.2.1 24 = .ok (.iconst 0, 1) := by decide +kernel
theorem dX5_isSize_25 : decode mX5_isSize.2.1 25 = .ok (.ireturn, 1) := by decide +kernel
theorem dX5_isDay_0 : decode mX5_isDay.2.1 0 = .ok (.iload_n 0, 1) := by decide +kernel
theorem dX5_isDay_1 : decode mX5_isDay.2.1 1 = .ok (.iconst 0, 1) := by decide +kernel
theorem dX5_isDay_2 : decode mX5_isDay.2.1 2 = .ok (.sipush 1000, 3) := by decide +kernel
theorem dX5_isDay_5 : decode mX5_isDay.2.1 5 = .ok (.invokestatic 57, 3) := by decide +kernel
theorem dX5_isDay_8 : decode mX5_isDay.2.1 8 = .ok (.ireturn, 1) := by decide +kernel
theorem dX5_bookAt_0 : decode mX5_bookAt.2.1 0 = .ok (.iload_n 1, 1) := by decide +kernel
theorem dX5_bookAt_1 : decode mX5_bookAt.2.1 1 = .ok (.iconst 0, 1) := by decide +kernel
theorem dX5_bookAt_2 : decode mX5_bookAt.2.1 2 = .ok (.aload_n 0, 1) := by decide +kernel
theorem dX5_bookAt_3 : decode mX5_bookAt.2.1 3 = .ok (.getfield 42, 3) := by decide +kernel
theorem dX5_bookAt_6 : decode mX5_bookAt.2.1 6 = .ok (.iconst 1, 1) := by decide +kernel
theorem dX5_bookAt_7 : decode mX5_bookAt.2.1 7 = .ok (.isub, 1) := by decide +kernel
theorem dX5_bookAt_8 : decode mX5_bookAt.2.1 8 = .ok (.invokestatic 57, 3) := by decide +kernel
theorem dX5_bookAt_11 : decode mX5_bookAt.2.1 11 = .ok (.ifCond .eq 12, 3) := by decide +kernel
theorem dX5_bookAt_14 : decode mX5_bookAt.2.1 14 = .ok (.aload_n 0, 1) := by decide +kernel
theorem dX5_bookAt_15 : decode mX5_bookAt.2.1 15 = .ok (.getfield 11, 3) := by decide +kernel
theorem dX5_bookAt_18 : decode mX5_bookAt.2.1 18 = .ok (.iload_n 1, 1) := by decide +kernel
theorem dX5_bookAt_19 : decode mX5_bookAt.2.1 19 = .ok (.aaload, 1) := by decide +kernel
theorem dX5_bookAt_20 : decode mX5_bookAt.2.1 20 = .ok (.goto 4, 3) := by decide +kernel
theorem dX5_bookAt_23 : decode mX5_bookAt.2.1 23 = .ok (.aconst_null, 1) := by decide +kernel
theorem dX5_bookAt_24 : decode mX5_bookAt.2.1 24 = .ok (.areturn, 1) := by decide +kernel
theorem dX5_skinAt_0 : decode mX5_skinAt.2.1 0 = .ok (.iload_n 1, 1) := by decide +kernel
theorem dX5_skinAt_1 : decode mX5_skinAt.2.1 1 = .ok (.iconst 0, 1) := by decide +kernel
theorem dX5_skinAt_2 : decode mX5_skinAt.2.1 2 = .ok (.aload_n 0, 1) := by decide +kernel
theorem dX5_skinAt_3 : decode mX5_skinAt.2.1 3 = .ok (.getfield 46, 3) := by decide +kernel
theorem dX5_skinAt_6 : decode mX5_skinAt.2.1 6 = .ok (.iconst 1, 1) := by decide +kernel
theorem dX5_skinAt_7 : decode mX5_skinAt.2.1 7 = .ok (.isub, 1) := by decide +kernel
theorem dX5_skinAt_8 : decode mX5_skinAt.2.1 8 = .ok (.invokestatic 57, 3) := by decide +kernel
theorem dX5_skinAt_11 : decode mX5_skinAt.2.1 11 = .ok (.ifCond .eq 12, 3) := by decide +kernel
theorem dX5_skinAt_14 : decode mX5_skinAt.2.1 14 = .ok (.aload_n 0, 1) := by decide +kernel
theorem dX5_skinAt_15 : decode mX5_skinAt.2.1 15 = .ok (.getfield 31, 3) := by decide +kernel
theorem dX5_skinAt_18 : decode mX5_skinAt.2.1 18 = .ok (.iload_n 1, 1) := by decide +kernel
theorem dX5_skinAt_19 : decode mX5_skinAt.2.1 19 = .ok (.aaload, 1) := by decide +kernel
theorem dX5_skinAt_20 : decode mX5_skinAt.2.1 20 = .ok (.goto 4, 3) := by decide +kernel
theorem dX5_skinAt_23 : decode mX5_skinAt.2.1 23 = .ok (.aconst_null, 1) := by decide +kernel
theorem dX5_skinAt_24 : decode mX5_skinAt.2.1 24 = .ok (.areturn, 1) := by decide +kernel
theorem dX5_takeBackAlike_0 : decode mX5_takeBackAlike.2.1 0 = .ok (.iconst 0, 1) := by decide +kernel
theorem dX5_takeBackAlike_1 : decode mX5_takeBackAlike.2.1 1 = .ok (.istore_n 2, 1) := by decide +kernel
theorem dX5_takeBackAlike_2 : decode mX5_takeBackAlike.2.1 2 = .ok (.iload_n 2, 1) := by decide +kernel
theorem dX5_takeBackAlike_3 : decode mX5_takeBackAlike.2.1 3 = .ok (.aload_n 0, 1) := by decide +kernel
theorem dX5_takeBackAlike_4 : decode mX5_takeBackAlike.2.1 4 = .ok (.getfield 46, 3) := by decide +kernel
theorem dX5_takeBackAlike_7 : decode mX5_takeBackAlike.2.1 7 = .ok (.if_icmp .ge 31, 3) := by decide +kernel
theorem dX5_takeBackAlike_10 : decode mX5_takeBackAlike.2.1 10 = .ok (.aload_n 0, 1) := by decide +kernel
theorem dX5_takeBackAlike_11 : decode mX5_takeBackAlike.2.1 11 = .ok (.iload_n 2, 1) := by decide +kernel
theorem dX5_takeBackAlike_12 : decode mX5_takeBackAlike.2.1 12 = .ok (.invokevirtual 198, 3) := by decide +kernel
theorem dX5_takeBackAlike_15 : decode mX5_takeBackAlike.2.1 15 = .ok (.astore_n 3, 1) := by decide +kernel
theorem dX5_takeBackAlike_16 : decode mX5_takeBackAlike.2.1 16 = .ok (.aload_n 3, 1) := by decide +kernel
theorem dX5_takeBackAlike_17 : decode mX5_takeBackAlike.2.1 17 = .ok (.ifnull 15, 3) := by decide +kernel
theorem dX5_takeBackAlike_20 : decode mX5_takeBackAlike.2.1 20 = .ok (.aload_n 3, 1) := by decide +kernel
theorem dX5_takeBackAlike_21 : decode mX5_takeBackAlike.2.1 21 = .ok (.getfield 214, 3) := by decide +kernel
theorem dX5_takeBackAlike_24 : decode mX5_takeBackAlike.2.1 24 = .ok (.iload_n 1, 1) := by decide +kernel
theorem dX5_takeBackAlike_25 : decode mX5_takeBackAlike.2.1 25 = .ok (.if_icmp .ne 7, 3) := by decide +kernel
theorem dX5_takeBackAlike_28 : decode mX5_takeBackAlike.2.1 28 = .ok (.aload_n 3, 1) := by decide +kernel
theorem dX5_takeBackAlike_29 : decode mX5_takeBackAlike.2.1 29 = .ok (.invokevirtual 247, 3) := by decide +kernel
theorem dX5_takeBackAlike_32 : decode mX5_takeBackAlike.2.1 32 = .ok (.iinc 2 1, 3) := by decide +kernel
theorem dX5_takeBackAlike_35 : decode mX5_takeBackAlike.2.1 35 = .ok (.goto (-33), 3) := by decide +kernel
theorem dX5_takeBackAlike_38 : decode mX5_takeBackAlike.2.1 38 = .ok (.return_, 1) := by decide +kernel

/-! decoded instructions -/
theorem dX4_takesAtHand_0 : decode cX4_takesAtHand 0 = .ok (.aload_n 0, 1) := by decide +kernel
theorem dX4_takesAtHand_1 : decode cX4_takesAtHand 1 = .ok (.aload_n 0, 1) := by decide +kernel
theorem dX4_takesAtHand_2 : decode cX4_takesAtHand 2 = .ok (.getfield 20, 3) := by decide +kernel
theorem dX4_takesAtHand_5 : decode cX4_takesAtHand 5 = .ok (.iload_n 1, 1) := by decide +kernel
theorem dX4_takesAtHand_6 : decode cX4_takesAtHand 6 = .ok (.iaload, 1) := by decide +kernel
theorem dX4_takesAtHand_7 : decode cX4_takesAtHand 7 = .ok (.invokevirtual 127, 3) := by decide +kernel
theorem dX4_takesAtHand_10 : decode cX4_takesAtHand 10 = .ok (.istore_n 2, 1) := by decide +kernel
theorem dX4_takesAtHand_11 : decode cX4_takesAtHand 11 = .ok (.aload_n 0, 1) := by decide +kernel
theorem dX4_takesAtHand_12 : decode cX4_takesAtHand 12 = .ok (.aload_n 0, 1) := by decide +kernel
theorem dX4_takesAtHand_13 : decode cX4_takesAtHand 13 = .ok (.getfield 23, 3) := by decide +kernel
theorem dX4_takesAtHand_16 : decode cX4_takesAtHand 16 = .ok (.iload_n 1, 1) := by decide +kernel
theorem dX4_takesAtHand_17 : decode cX4_takesAtHand 17 = .ok (.iaload, 1) := by decide +kernel
theorem dX4_takesAtHand_18 : decode cX4_takesAtHand 18 = .ok (.invokevirtual 127, 3) := by decide +kernel
theorem dX4_takesAtHand_21 : decode cX4_takesAtHand 21 = .ok (.istore_n 3, 1) := by decide +kernel
theorem dX4_takesAtHand_22 : decode cX4_takesAtHand 22 = .ok (.iconst 1, 1) := by decide +kernel
theorem dX4_takesAtHand_23 : decode cX4_takesAtHand 23 = .ok (.istore 4, 2) := by decide +kernel
theorem dX4_takesAtHand_25 : decode cX4_takesAtHand 25 = .ok (.aload_n 0, 1) := by decide +kernel
theorem dX4_takesAtHand_26 : decode cX4_takesAtHand 26 = .ok (.getfield 26, 3) := by decide +kernel
theorem dX4_takesAtHand_29 : decode cX4_takesAtHand 29 = .ok (.iload_n 1, 1) := by decide +kernel
theorem dX4_takesAtHand_30 : decode cX4_takesAtHand 30 = .ok (.baload, 1) := by decide +kernel
theorem dX4_takesAtHand_31 : decode cX4_takesAtHand 31 = .ok (.ifCond .eq 11, 3) := by decide +kernel
theorem dX4_takesAtHand_34 : decode cX4_takesAtHand 34 = .ok (.iload_n 2, 1) := by decide +kernel
theorem dX4_takesAtHand_35 : decode cX4_takesAtHand 35 = .ok (.iload_n 3, 1) := by decide +kernel
theorem dX4_takesAtHand_36 : decode cX4_takesAtHand 36 = .ok (.if_icmp .eq 51, 3) := by decide +kernel
theorem dX4_takesAtHand_39 : decode cX4_takesAtHand 39 = .ok (.goto 8, 3) := by decide +kernel
theorem dX4_takesAtHand_42 : decode cX4_takesAtHand 42 = .ok (.iload 4, 2) := by decide +kernel
theorem dX4_takesAtHand_44 : decode cX4_takesAtHand 44 = .ok (.ifCond .eq 43, 3) := by decide +kernel
theorem dX4_takesAtHand_47 : decode cX4_takesAtHand 47 = .ok (.aload_n 0, 1) := by decide +kernel
theorem dX4_takesAtHand_48 : decode cX4_takesAtHand 48 = .ok (.getfield 56, 3) := by decide +kernel
theorem dX4_takesAtHand_51 : decode cX4_takesAtHand 51 = .ok (.iload_n 2, 1) := by decide +kernel
theorem dX4_takesAtHand_52 : decode cX4_takesAtHand 52 = .ok (.iaload, 1) := by decide +kernel
theorem dX4_takesAtHand_53 : decode cX4_takesAtHand 53 = .ok (.ifCond .lt 12, 3) := by decide +kernel
theorem dX4_takesAtHand_56 : decode cX4_takesAtHand 56 = .ok (.aload_n 0, 1) := by decide +kernel
theorem dX4_takesAtHand_57 : decode cX4_takesAtHand 57 = .ok (.getfield 59, 3) := by decide +kernel
theorem dX4_takesAtHand_60 : decode cX4_takesAtHand 60 = .ok (.iload_n 2, 1) := by decide +kernel
theorem dX4_takesAtHand_61 : decode cX4_takesAtHand 61 = .ok (.baload, 1) := by decide +kernel
theorem dX4_takesAtHand_62 : decode cX4_takesAtHand 62 = .ok (.ifCond .eq 5, 3) := by decide +kernel
theorem dX4_takesAtHand_65 : decode cX4_takesAtHand 65 = .ok (.iconst 0, 1) := by decide +kernel
theorem dX4_takesAtHand_66 : decode cX4_takesAtHand 66 = .ok (.ireturn, 1) := by decide +kernel
theorem dX4_takesAtHand_67 : decode cX4_takesAtHand 67 = .ok (.aload_n 0, 1) := by decide +kernel
theorem dX4_takesAtHand_68 : decode cX4_takesAtHand 68 = .ok (.getfield 59, 3) := by decide +kernel
theorem dX4_takesAtHand_71 : decode cX4_takesAtHand 71 = .ok (.iload_n 2, 1) := by decide +kernel
theorem dX4_takesAtHand_72 : decode cX4_takesAtHand 72 = .ok (.iconst 1, 1) := by decide +kernel
theorem dX4_takesAtHand_73 : decode cX4_takesAtHand 73 = .ok (.bastore, 1) := by decide +kernel
theorem dX4_takesAtHand_74 : decode cX4_takesAtHand 74 = .ok (.aload_n 0, 1) := by decide +kernel
theorem dX4_takesAtHand_75 : decode cX4_takesAtHand 75 = .ok (.getfield 56, 3) := by decide +kernel
theorem dX4_takesAtHand_78 : decode cX4_takesAtHand 78 = .ok (.iload_n 2, 1) := by decide +kernel
theorem dX4_takesAtHand_79 : decode cX4_takesAtHand 79 = .ok (.iaload, 1) := by decide +kernel
theorem dX4_takesAtHand_80 : decode cX4_takesAtHand 80 = .ok (.istore_n 2, 1) := by decide +kernel
theorem dX4_takesAtHand_81 : decode cX4_takesAtHand 81 = .ok (.iconst 0, 1) := by decide +kernel
theorem dX4_takesAtHand_82 : decode cX4_takesAtHand 82 = .ok (.istore 4, 2) := by decide +kernel
theorem dX4_takesAtHand_84 : decode cX4_takesAtHand 84 = .ok (.goto (-59), 3) := by decide +kernel
theorem dX4_takesAtHand_87 : decode cX4_takesAtHand 87 = .ok (.iload_n 2, 1) := by decide +kernel
theorem dX4_takesAtHand_88 : decode cX4_takesAtHand 88 = .ok (.iload_n 3, 1) := by decide +kernel
theorem dX4_takesAtHand_89 : decode cX4_takesAtHand 89 = .ok (.if_icmp .ne 7, 3) := by decide +kernel
theorem dX4_takesAtHand_92 : decode cX4_takesAtHand 92 = .ok (.iconst 1, 1) := by decide +kernel
theorem dX4_takesAtHand_93 : decode cX4_takesAtHand 93 = .ok (.goto 4, 3) := by decide +kernel
theorem dX4_takesAtHand_96 : decode cX4_takesAtHand 96 = .ok (.iconst 0, 1) := by decide +kernel
theorem dX4_takesAtHand_97 : decode cX4_takesAtHand 97 = .ok (.ireturn, 1) := by decide +kernel
theorem dX4_copy_0 : decode cX4_copy 0 = .ok (.aload_n 0, 1) := by decide +kernel
theorem dX4_copy_1 : decode cX4_copy 1 = .ok (.iload_n 1, 1) := by decide +kernel
theorem dX4_copy_2 : decode cX4_copy 2 = .ok (.invokestatic 124, 3) := by decide +kernel
theorem dX4_copy_5 : decode cX4_copy 5 = .ok (.ifCond .ne 10, 3) := by decide +kernel
theorem dX4_copy_8 : decode cX4_copy 8 = .ok (.iload_n 2, 1) := by decide +kernel
theorem dX4_copy_9 : decode cX4_copy 9 = .ok (.invokestatic 70, 3) := by decide +kernel
theorem dX4_copy_12 : decode cX4_copy 12 = .ok (.ifCond .eq 7, 3) := by decide +kernel
theorem dX4_copy_15 : decode cX4_copy 15 = .ok (.iconst 1, 1) := by decide +kernel
theorem dX4_copy_16 : decode cX4_copy 16 = .ok (.goto 4, 3) := by decide +kernel
theorem dX4_copy_19 : decode cX4_copy 19 = .ok (.iconst 0, 1) := by decide +kernel
theorem dX4_copy_20 : decode cX4_copy 20 = .ok (.putfield 62, 3) := by decide +kernel
theorem dX4_copy_23 : decode cX4_copy 23 = .ok (.aload_n 0, 1) := by decide +kernel
theorem dX4_copy_24 : decode cX4_copy 24 = .ok (.getfield 62, 3) := by decide +kernel
theorem dX4_copy_27 : decode cX4_copy 27 = .ok (.ifCond .ne 14, 3) := by decide +kernel
theorem dX4_copy_30 : decode cX4_copy 30 = .ok (.aload_n 0, 1) := by decide +kernel
theorem dX4_copy_31 : decode cX4_copy 31 = .ok (.getfield 53, 3) := by decide +kernel
theorem dX4_copy_34 : decode cX4_copy 34 = .ok (.iload_n 1, 1) := by decide +kernel
theorem dX4_copy_35 : decode cX4_copy 35 = .ok (.aload_n 0, 1) := by decide +kernel
theorem dX4_copy_36 : decode cX4_copy 36 = .ok (.iload_n 2, 1) := by decide +kernel
theorem dX4_copy_37 : decode cX4_copy 37 = .ok (.invokevirtual 127, 3) := by decide +kernel
theorem dX4_copy_40 : decode cX4_copy 40 = .ok (.iastore, 1) := by decide +kernel
theorem dX4_copy_41 : decode cX4_copy 41 = .ok (.return_, 1) := by decide +kernel
theorem dX4_load_0 : decode cX4_load 0 = .ok (.aload_n 0, 1) := by decide +kernel
theorem dX4_load_1 : decode cX4_load 1 = .ok (.iload_n 1, 1) := by decide +kernel
theorem dX4_load_2 : decode cX4_load 2 = .ok (.invokestatic 124, 3) := by decide +kernel
theorem dX4_load_5 : decode cX4_load 5 = .ok (.ifCond .ne 10, 3) := by decide +kernel
theorem dX4_load_8 : decode cX4_load 8 = .ok (.iload_n 2, 1) := by decide +kernel
theorem dX4_load_9 : decode cX4_load 9 = .ok (.invokestatic 124, 3) := by decide +kernel
theorem dX4_load_12 : decode cX4_load 12 = .ok (.ifCond .eq 7, 3) := by decide +kernel
theorem dX4_load_15 : decode cX4_load 15 = .ok (.iconst 1, 1) := by decide +kernel
theorem dX4_load_16 : decode cX4_load 16 = .ok (.goto 22, 3) := by decide +kernel
theorem dX4_load_19 : decode cX4_load 19 = .ok (.aload_n 0, 1) := by decide +kernel
theorem dX4_load_20 : decode cX4_load 20 = .ok (.getfield 56, 3) := by decide +kernel
theorem dX4_load_23 : decode cX4_load 23 = .ok (.aload_n 0, 1) := by decide +kernel
theorem dX4_load_24 : decode cX4_load 24 = .ok (.getfield 53, 3) := by decide +kernel
theorem dX4_load_27 : decode cX4_load 27 = .ok (.iload_n 2, 1) := by decide +kernel
theorem dX4_load_28 : decode cX4_load 28 = .ok (.iaload, 1) := by decide +kernel
theorem dX4_load_29 : decode cX4_load 29 = .ok (.iaload, 1) := by decide +kernel
theorem dX4_load_30 : decode cX4_load 30 = .ok (.ifCond .ge 7, 3) := by decide +kernel
theorem dX4_load_33 : decode cX4_load 33 = .ok (.iconst 2, 1) := by decide +kernel
theorem dX4_load_34 : decode cX4_load 34 = .ok (.goto 4, 3) := by decide +kernel
theorem dX4_load_37 : decode cX4_load 37 = .ok (.iconst 0, 1) := by decide +kernel
theorem dX4_load_38 : decode cX4_load 38 = .ok (.putfield 62, 3) := by decide +kernel
theorem dX4_load_41 : decode cX4_load 41 = .ok (.aload_n 0, 1) := by decide +kernel
theorem dX4_load_42 : decode cX4_load 42 = .ok (.getfield 62, 3) := by decide +kernel
theorem dX4_load_45 : decode cX4_load 45 = .ok (.ifCond .ne 20, 3) := by decide +kernel
theorem dX4_load_48 : decode cX4_load 48 = .ok (.aload_n 0, 1) := by decide +kernel
theorem dX4_load_49 : decode cX4_load 49 = .ok (.getfield 53, 3) := by decide +kernel
theorem dX4_load_52 : decode cX4_load 52 = .ok (.iload_n 1, 1) := by decide +kernel
theorem dX4_load_53 : decode cX4_load 53 = .ok (.aload_n 0, 1) := by decide +kernel
theorem dX4_load_54 : decode cX4_load 54 = .ok (.getfield 56, 3) := by decide +kernel
theorem dX4_load_57 : decode cX4_load 57 = .ok (.aload_n 0, 1) := by decide +kernel
theorem dX4_load_58 : decode cX4_load 58 = .ok (.getfield 53, 3) := by decide +kernel
theorem dX4_load_61 : decode cX4_load 61 = .ok (.iload_n 2, 1) := by decide +kernel
theorem dX4_load_62 : decode cX4_load 62 = .ok (.iaload, 1) := by decide +kernel
theorem dX4_load_63 : decode cX4_load 63 = .ok (.iaload, 1) := by decide +kernel
theorem dX4_load_64 : decode cX4_load 64 = .ok (.iastore, 1) := by decide +kernel
theorem dX4_load_65 : decode cX4_load 65 = .ok (.return_, 1) := by decide +kernel
theorem dX4_store_0 : decode cX4_store 0 = .ok (.aload_n 0, 1) := by decide +kernel
theorem dX4_store_1 : decode cX4_store 1 = .ok (.iload_n 1, 1) := by decide +kernel
theorem dX4_store_2 : decode cX4_store 2 = .ok (.invokestatic 124, 3) := by decide +kernel
theorem dX4_store_5 : decode cX4_store 5 = .ok (.ifCond .ne 10, 3) := by decide +kernel
theorem dX4_store_8 : decode cX4_store 8 = .ok (.iload_n 2, 1) := by decide +kernel
theorem dX4_store_9 : decode cX4_store 9 = .ok (.invokestatic 70, 3) := by decide +kernel
theorem dX4_store_12 : decode cX4_store 12 = .ok (.ifCond .eq 7, 3) := by decide +kernel
theorem dX4_store_15 : decode cX4_store 15 = .ok (.iconst 1, 1) := by decide +kernel
theorem dX4_store_16 : decode cX4_store 16 = .ok (.goto 22, 3) := by decide +kernel
theorem dX4_store_19 : decode cX4_store 19 = .ok (.aload_n 0, 1) := by decide +kernel
theorem dX4_store_20 : decode cX4_store 20 = .ok (.getfield 56, 3) := by decide +kernel
theorem dX4_store_23 : decode cX4_store 23 = .ok (.aload_n 0, 1) := by decide +kernel
theorem dX4_store_24 : decode cX4_store 24 = .ok (.getfield 53, 3) := by decide +kernel
theorem dX4_store_27 : decode cX4_store 27 = .ok (.iload_n 1, 1) := by decide +kernel
theorem dX4_store_28 : decode cX4_store 28 = .ok (.iaload, 1) := by decide +kernel
theorem dX4_store_29 : decode cX4_store 29 = .ok (.iaload, 1) := by decide +kernel
theorem dX4_store_30 : decode cX4_store 30 = .ok (.ifCond .ge 7, 3) := by decide +kernel
theorem dX4_store_33 : decode cX4_store 33 = .ok (.iconst 2, 1) := by decide +kernel
theorem dX4_store_34 : decode cX4_store 34 = .ok (.goto 4, 3) := by decide +kernel
theorem dX4_store_37 : decode cX4_store 37 = .ok (.iconst 0, 1) := by decide +kernel
theorem dX4_store_38 : decode cX4_store 38 = .ok (.putfield 62, 3) := by decide +kernel
theorem dX4_store_41 : decode cX4_store 41 = .ok (.aload_n 0, 1) := by decide +kernel
theorem dX4_store_42 : decode cX4_store 42 = .ok (.getfield 62, 3) := by decide +kernel
theorem dX4_store_45 : decode cX4_store 45 = .ok (.ifCond .ne 19, 3) := by decide +kernel
theorem dX4_store_48 : decode cX4_store 48 = .ok (.aload_n 0, 1) := by decide +kernel
theorem dX4_store_49 : decode cX4_store 49 = .ok (.getfield 56, 3) := by decide +kernel
theorem dX4_store_52 : decode cX4_store 52 = .ok (.aload_n 0, 1) := by decide +kernel
theorem dX4_store_53 : decode cX4_store 53 = .ok (.getfield 53, 3) := by decide +kernel
theorem dX4_store_56 : decode cX4_store 56 = .ok (.iload_n 1, 1) := by decide +kernel
theorem dX4_store_57 : decode cX4_store 57 = .ok (.iaload, 1) := by decide +kernel
theorem dX4_store_58 : decode cX4_store 58 = .ok (.aload_n 0, 1) := by decide +kernel
theorem dX4_store_59 : decode cX4_store 59 = .ok (.iload_n 2, 1) := by decide +kernel
theorem dX4_store_60 : decode cX4_store 60 = .ok (.invokevirtual 127, 3) := by decide +kernel
theorem dX4_store_63 : decode cX4_store 63 = .ok (.iastore, 1) := by decide +kernel
theorem dX4_store_64 : decode cX4_store 64 = .ok (.return_, 1) := by decide +kernel
theorem dX4_make_0 : decode cX4_make 0 = .ok (.iconst 1, 1) := by decide +kernel
theorem dX4_make_1 : decode cX4_make 1 = .ok (.istore_n 2, 1) := by decide +kernel
theorem dX4_make_2 : decode cX4_make 2 = .ok (.iload_n 2, 1) := by decide +kernel
theorem dX4_make_3 : decode cX4_make 3 = .ok (.bipush 10, 2) := by decide +kernel
theorem dX4_make_5 : decode cX4_make 5 = .ok (.if_icmp .ge 18, 3) := by decide +kernel
theorem dX4_make_8 : decode cX4_make 8 = .ok (.aload_n 0, 1) := by decide +kernel
theorem dX4_make_9 : decode cX4_make 9 = .ok (.getfield 56, 3) := by decide +kernel
theorem dX4_make_12 : decode cX4_make 12 = .ok (.iload_n 2, 1) := by decide +kernel
theorem dX4_make_13 : decode cX4_make 13 = .ok (.iaload, 1) := by decide +kernel
theorem dX4_make_14 : decode cX4_make 14 = .ok (.ifCond .lt 9, 3) := by decide +kernel
theorem dX4_make_17 : decode cX4_make 17 = .ok (.iinc 2 1, 3) := by decide +kernel
theorem dX4_make_20 : decode cX4_make 20 = .ok (.goto (-18), 3) := by decide +kernel
theorem dX4_make_23 : decode cX4_make 23 = .ok (.aload_n 0, 1) := by decide +kernel
theorem dX4_make_24 : decode cX4_make 24 = .ok (.iload_n 1, 1) := by decide +kernel
theorem dX4_make_25 : decode cX4_make 25 = .ok (.invokestatic 124, 3) := by decide +kernel
theorem dX4_make_28 : decode cX4_make 28 = .ok (.ifCond .eq 7, 3) := by decide +kernel
theorem dX4_make_31 : decode cX4_make 31 = .ok (.iconst 1, 1) := by decide +kernel
theorem dX4_make_32 : decode cX4_make 32 = .ok (.goto 14, 3) := by decide +kernel
theorem dX4_make_35 : decode cX4_make 35 = .ok (.iload_n 2, 1) := by decide +kernel
theorem dX4_make_36 : decode cX4_make 36 = .ok (.bipush 10, 2) := by decide +kernel
theorem dX4_make_38 : decode cX4_make 38 = .ok (.if_icmp .ne 7, 3) := by decide +kernel
theorem dX4_make_41 : decode cX4_make 41 = .ok (.iconst 2, 1) := by decide +kernel
theorem dX4_make_42 : decode cX4_make 42 = .ok (.goto 4, 3) := by decide +kernel
theorem dX4_make_45 : decode cX4_make 45 = .ok (.iconst 0, 1) := by decide +kernel
theorem dX4_make_46 : decode cX4_make 46 = .ok (.putfield 62, 3) := by decide +kernel
theorem dX4_make_49 : decode cX4_make 49 = .ok (.aload_n 0, 1) := by decide +kernel
theorem dX4_make_50 : decode cX4_make 50 = .ok (.getfield 62, 3) := by decide +kernel
theorem dX4_make_53 : decode cX4_make 53 = .ok (.ifCond .le 4, 3) := by decide +kernel
theorem dX4_make_56 : decode cX4_make 56 = .ok (.return_, 1) := by decide +kernel
theorem dX4_make_57 : decode cX4_make 57 = .ok (.aload_n 0, 1) := by decide +kernel
theorem dX4_make_58 : decode cX4_make 58 = .ok (.getfield 56, 3) := by decide +kernel
theorem dX4_make_61 : decode cX4_make 61 = .ok (.iload_n 2, 1) := by decide +kernel
theorem dX4_make_62 : decode cX4_make 62 = .ok (.iconst 0, 1) := by decide +kernel
theorem dX4_make_63 : decode cX4_make 63 = .ok (.iastore, 1) := by decide +kernel
theorem dX4_make_64 : decode cX4_make 64 = .ok (.aload_n 0, 1) := by decide +kernel
theorem dX4_make_65 : decode cX4_make 65 = .ok (.getfield 53, 3) := by decide +kernel
theorem dX4_make_68 : decode cX4_make 68 = .ok (.iload_n 1, 1) := by decide +kernel
theorem dX4_make_69 : decode cX4_make 69 = .ok (.iload_n 2, 1) := by decide +kernel
theorem dX4_make_70 : decode cX4_make 70 = .ok (.iastore, 1) := by decide +kernel
theorem dX4_make_71 : decode cX4_make 71 = .ok (.return_, 1) := by decide +kernel
theorem dX4_drop_0 : decode cX4_drop 0 = .ok (.aload_n 0, 1) := by decide +kernel
theorem dX4_drop_1 : decode cX4_drop 1 = .ok (.iload_n 1, 1) := by decide +kernel
theorem dX4_drop_2 : decode cX4_drop 2 = .ok (.invokestatic 124, 3) := by decide +kernel
theorem dX4_drop_5 : decode cX4_drop 5 = .ok (.ifCond .eq 7, 3) := by decide +kernel
theorem dX4_drop_8 : decode cX4_drop 8 = .ok (.iconst 1, 1) := by decide +kernel
theorem dX4_drop_9 : decode cX4_drop 9 = .ok (.goto 22, 3) := by decide +kernel
theorem dX4_drop_12 : decode cX4_drop 12 = .ok (.aload_n 0, 1) := by decide +kernel
theorem dX4_drop_13 : decode cX4_drop 13 = .ok (.getfield 56, 3) := by decide +kernel
theorem dX4_drop_16 : decode cX4_drop 16 = .ok (.aload_n 0, 1) := by decide +kernel
theorem dX4_drop_17 : decode cX4_drop 17 = .ok (.getfield 53, 3) := by decide +kernel
theorem dX4_drop_20 : decode cX4_drop 20 = .ok (.iload_n 1, 1) := by decide +kernel
theorem dX4_drop_21 : decode cX4_drop 21 = .ok (.iaload, 1) := by decide +kernel
theorem dX4_drop_22 : decode cX4_drop 22 = .ok (.iaload, 1) := by decide +kernel
theorem dX4_drop_23 : decode cX4_drop 23 = .ok (.ifCond .ge 7, 3) := by decide +kernel
theorem dX4_drop_26 : decode cX4_drop 26 = .ok (.iconst 2, 1) := by decide +kernel
theorem dX4_drop_27 : decode cX4_drop 27 = .ok (.goto 4, 3) := by decide +kernel
theorem dX4_drop_30 : decode cX4_drop 30 = .ok (.iconst 0, 1) := by decide +kernel
theorem dX4_drop_31 : decode cX4_drop 31 = .ok (.putfield 62, 3) := by decide +kernel
theorem dX4_drop_34 : decode cX4_drop 34 = .ok (.aload_n 0, 1) := by decide +kernel
theorem dX4_drop_35 : decode cX4_drop 35 = .ok (.getfield 62, 3) := by decide +kernel
theorem dX4_drop_38 : decode cX4_drop 38 = .ok (.ifCond .ne 15, 3) := by decide +kernel
theorem dX4_drop_41 : decode cX4_drop 41 = .ok (.aload_n 0, 1) := by decide +kernel
theorem dX4_drop_42 : decode cX4_drop 42 = .ok (.getfield 56, 3) := by decide +kernel
theorem dX4_drop_45 : decode cX4_drop 45 = .ok (.aload_n 0, 1) := by decide +kernel
theorem dX4_drop_46 : decode cX4_drop 46 = .ok (.getfield 53, 3) := by decide +kernel
theorem dX4_drop_49 : decode cX4_drop 49 = .ok (.iload_n 1, 1) := by decide +kernel
theorem dX4_drop_50 : decode cX4_drop 50 = .ok (.iaload, 1) := by decide +kernel
theorem dX4_drop_51 : decode cX4_drop 51 = .ok (.iconst (-1), 1) := by decide +kernel
theorem dX4_drop_52 : decode cX4_drop 52 = .ok (.iastore, 1) := by decide +kernel
theorem dX4_drop_53 : decode cX4_drop 53 = .ok (.return_, 1) := by decide +kernel
theorem dX4_value_0 : decode cX4_value 0 = .ok (.aload_n 0, 1) := by decide +kernel
theorem dX4_value_1 : decode cX4_value 1 = .ok (.iload_n 1, 1) := by decide +kernel
theorem dX4_value_2 : decode cX4_value 2 = .ok (.invokestatic 70, 3) := by decide +kernel
theorem dX4_value_5 : decode cX4_value 5 = .ok (.ifCond .eq 7, 3) := by decide +kernel
theorem dX4_value_8 : decode cX4_value 8 = .ok (.iconst 1, 1) := by decide +kernel
theorem dX4_value_9 : decode cX4_value 9 = .ok (.goto 4, 3) := by decide +kernel
theorem dX4_value_12 : decode cX4_value 12 = .ok (.iconst 0, 1) := by decide +kernel
theorem dX4_value_13 : decode cX4_value 13 = .ok (.putfield 62, 3) := by decide +kernel
theorem dX4_value_16 : decode cX4_value 16 = .ok (.aload_n 0, 1) := by decide +kernel
theorem dX4_value_17 : decode cX4_value 17 = .ok (.getfield 62, 3) := by decide +kernel
theorem dX4_value_20 : decode cX4_value 20 = .ok (.ifCond .le 7, 3) := by decide +kernel
theorem dX4_value_23 : decode cX4_value 23 = .ok (.iconst 0, 1) := by decide +kernel
theorem dX4_value_24 : decode cX4_value 24 = .ok (.goto 8, 3) := by decide +kernel
theorem dX4_value_27 : decode cX4_value 27 = .ok (.aload_n 0, 1) := by decide +kernel
theorem dX4_value_28 : decode cX4_value 28 = .ok (.iload_n 1, 1) := by decide +kernel
theorem dX4_value_29 : decode cX4_value 29 = .ok (.invokevirtual 127, 3) := by decide +kernel
theorem dX4_value_32 : decode cX4_value 32 = .ok (.ireturn, 1) := by decide +kernel
theorem dX4_next_0 : decode cX4_next 0 = .ok (.aload_n 0, 1) := by decide +kernel
theorem dX4_next_1 : decode cX4_next 1 = .ok (.iconst 0, 1) := by decide +kernel
theorem dX4_next_2 : decode cX4_next 2 = .ok (.putfield 62, 3) := by decide +kernel
theorem dX4_next_5 : decode cX4_next 5 = .ok (.iload_n 1, 1) := by decide +kernel
theorem dX4_next_6 : decode cX4_next 6 = .ok (.iconst 1, 1) := by decide +kernel
theorem dX4_next_7 : decode cX4_next 7 = .ok (.if_icmp .lt 9, 3) := by decide +kernel
theorem dX4_next_10 : decode cX4_next 10 = .ok (.iload_n 1, 1) := by decide +kernel
theorem dX4_next_11 : decode cX4_next 11 = .ok (.bipush 9, 2) := by decide +kernel
theorem dX4_next_13 : decode cX4_next 13 = .ok (.if_icmp .le 7, 3) := by decide +kernel
theorem dX4_next_16 : decode cX4_next 16 = .ok (.iconst (-1), 1) := by decide +kernel
theorem dX4_next_17 : decode cX4_next 17 = .ok (.goto 9, 3) := by decide +kernel
theorem dX4_next_20 : decode cX4_next 20 = .ok (.aload_n 0, 1) := by decide +kernel
theorem dX4_next_21 : decode cX4_next 21 = .ok (.getfield 56, 3) := by decide +kernel
theorem dX4_next_24 : decode cX4_next 24 = .ok (.iload_n 1, 1) := by decide +kernel
theorem dX4_next_25 : decode cX4_next 25 = .ok (.iaload, 1) := by decide +kernel
theorem dX4_next_26 : decode cX4_next 26 = .ok (.ireturn, 1) := by decide +kernel
theorem dX4_count_0 : decode cX4_count 0 = .ok (.aload_n 0, 1) := by decide +kernel
theorem dX4_count_1 : decode cX4_count 1 = .ok (.iconst 0, 1) := by decide +kernel
theorem dX4_count_2 : decode cX4_count 2 = .ok (.putfield 62, 3) := by decide +kernel
theorem dX4_count_5 : decode cX4_count 5 = .ok (.iconst 0, 1) := by decide +kernel
theorem dX4_count_6 : decode cX4_count 6 = .ok (.istore_n 1, 1) := by decide +kernel
theorem dX4_count_7 : decode cX4_count 7 = .ok (.iconst 1, 1) := by decide +kernel
theorem dX4_count_8 : decode cX4_count 8 = .ok (.istore_n 2, 1) := by decide +kernel
theorem dX4_count_9 : decode cX4_count 9 = .ok (.iload_n 2, 1) := by decide +kernel
theorem dX4_count_10 : decode cX4_count 10 = .ok (.bipush 10, 2) := by decide +kernel
theorem dX4_count_12 : decode cX4_count 12 = .ok (.if_icmp .ge 26, 3) := by decide +kernel
theorem dX4_count_15 : decode cX4_count 15 = .ok (.aload_n 0, 1) := by decide +kernel
theorem dX4_count_16 : decode cX4_count 16 = .ok (.getfield 56, 3) := by decide +kernel
theorem dX4_count_19 : decode cX4_count 19 = .ok (.iload_n 2, 1) := by decide +kernel
theorem dX4_count_20 : decode cX4_count 20 = .ok (.iaload, 1) := by decide +kernel
theorem dX4_count_21 : decode cX4_count 21 = .ok (.ifCond .lt 9, 3) := by decide +kernel
theorem dX4_count_24 : decode cX4_count 24 = .ok (.iload_n 1, 1) := by decide +kernel
theorem dX4_count_25 : decode cX4_count 25 = .ok (.iconst 1, 1) := by decide +kernel
theorem dX4_count_26 : decode cX4_count 26 = .ok (.iadd, 1) := by decide +kernel
theorem dX4_count_27 : decode cX4_count 27 = .ok (.goto 4, 3) := by decide +kernel
theorem dX4_count_30 : decode cX4_count 30 = .ok (.iload_n 1, 1) := by decide +kernel
theorem dX4_count_31 : decode cX4_count 31 = .ok (.istore_n 1, 1) := by decide +kernel
theorem dX4_count_32 : decode cX4_count 32 = .ok (.iinc 2 1, 3) := by decide +kernel
theorem dX4_count_35 : decode cX4_count 35 = .ok (.goto (-26), 3) := by decide +kernel
theorem dX4_count_38 : decode cX4_count 38 = .ok (.iload_n 1, 1) := by decide +kernel
theorem dX4_count_39 : decode cX4_count 39 = .ok (.ireturn, 1) := by decide +kernel

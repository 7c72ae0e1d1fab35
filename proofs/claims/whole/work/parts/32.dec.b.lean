/-! decoded instructions -/
theorem dX3_init_0 : decode cX3_init 0 = .ok (.aload_n 0, 1) := by decide +kernel
theorem dX3_init_1 : decode cX3_init 1 = .ok (.invokespecial 1, 3) := by decide +kernel
theorem dX3_init_4 : decode cX3_init 4 = .ok (.aload_n 0, 1) := by decide +kernel
theorem dX3_init_5 : decode cX3_init 5 = .ok (.new 7, 3) := by decide +kernel
theorem dX3_init_8 : decode cX3_init 8 = .ok (.dup, 1) := by decide +kernel
theorem dX3_init_9 : decode cX3_init 9 = .ok (.invokespecial 9, 3) := by decide +kernel
theorem dX3_init_12 : decode cX3_init 12 = .ok (.putfield 10, 3) := by decide +kernel
theorem dX3_init_15 : decode cX3_init 15 = .ok (.aload_n 0, 1) := by decide +kernel
theorem dX3_init_16 : decode cX3_init 16 = .ok (.new 7, 3) := by decide +kernel
theorem dX3_init_19 : decode cX3_init 19 = .ok (.dup, 1) := by decide +kernel
theorem dX3_init_20 : decode cX3_init 20 = .ok (.invokespecial 9, 3) := by decide +kernel
theorem dX3_init_23 : decode cX3_init 23 = .ok (.putfield 16, 3) := by decide +kernel
theorem dX3_init_26 : decode cX3_init 26 = .ok (.aload_n 0, 1) := by decide +kernel
theorem dX3_init_27 : decode cX3_init 27 = .ok (.new 19, 3) := by decide +kernel
theorem dX3_init_30 : decode cX3_init 30 = .ok (.dup, 1) := by decide +kernel
theorem dX3_init_31 : decode cX3_init 31 = .ok (.bipush 9, 2) := by decide +kernel
theorem dX3_init_33 : decode cX3_init 33 = .ok (.invokespecial 21, 3) := by decide +kernel
theorem dX3_init_36 : decode cX3_init 36 = .ok (.putfield 24, 3) := by decide +kernel
theorem dX3_init_39 : decode cX3_init 39 = .ok (.aload_n 0, 1) := by decide +kernel
theorem dX3_init_40 : decode cX3_init 40 = .ok (.new 28, 3) := by decide +kernel
theorem dX3_init_43 : decode cX3_init 43 = .ok (.dup, 1) := by decide +kernel
theorem dX3_init_44 : decode cX3_init 44 = .ok (.invokespecial 30, 3) := by decide +kernel
theorem dX3_init_47 : decode cX3_init 47 = .ok (.putfield 31, 3) := by decide +kernel
theorem dX3_init_50 : decode cX3_init 50 = .ok (.return_, 1) := by decide +kernel
theorem dX3_swap_0 : decode cX3_swap 0 = .ok (.aload_n 0, 1) := by decide +kernel
theorem dX3_swap_1 : decode cX3_swap 1 = .ok (.getfield 10, 3) := by decide +kernel
theorem dX3_swap_4 : decode cX3_swap 4 = .ok (.astore_n 1, 1) := by decide +kernel
theorem dX3_swap_5 : decode cX3_swap 5 = .ok (.aload_n 0, 1) := by decide +kernel
theorem dX3_swap_6 : decode cX3_swap 6 = .ok (.aload_n 0, 1) := by decide +kernel
theorem dX3_swap_7 : decode cX3_swap 7 = .ok (.getfield 16, 3) := by decide +kernel
theorem dX3_swap_10 : decode cX3_swap 10 = .ok (.putfield 10, 3) := by decide +kernel
theorem dX3_swap_13 : decode cX3_swap 13 = .ok (.aload_n 0, 1) := by decide +kernel
theorem dX3_swap_14 : decode cX3_swap 14 = .ok (.aload_n 1, 1) := by decide +kernel
theorem dX3_swap_15 : decode cX3_swap 15 = .ok (.putfield 16, 3) := by decide +kernel
theorem dX3_swap_18 : decode cX3_swap 18 = .ok (.return_, 1) := by decide +kernel
theorem dX3_implies_0 : decode cX3_implies 0 = .ok (.aload_n 0, 1) := by decide +kernel
theorem dX3_implies_1 : decode cX3_implies 1 = .ok (.invokevirtual 77, 3) := by decide +kernel
theorem dX3_implies_4 : decode cX3_implies 4 = .ok (.ifCond .ne 7, 3) := by decide +kernel
theorem dX3_implies_7 : decode cX3_implies 7 = .ok (.iconst 1, 1) := by decide +kernel
theorem dX3_implies_8 : decode cX3_implies 8 = .ok (.goto 4, 3) := by decide +kernel
theorem dX3_implies_11 : decode cX3_implies 11 = .ok (.iconst 0, 1) := by decide +kernel
theorem dX3_implies_12 : decode cX3_implies 12 = .ok (.ireturn, 1) := by decide +kernel
theorem dX3_leastFrame_0 : decode cX3_leastFrame 0 = .ok (.iconst 0, 1) := by decide +kernel
theorem dX3_leastFrame_1 : decode cX3_leastFrame 1 = .ok (.istore_n 1, 1) := by decide +kernel
theorem dX3_leastFrame_2 : decode cX3_leastFrame 2 = .ok (.iconst 0, 1) := by decide +kernel
theorem dX3_leastFrame_3 : decode cX3_leastFrame 3 = .ok (.istore_n 2, 1) := by decide +kernel
theorem dX3_leastFrame_4 : decode cX3_leastFrame 4 = .ok (.aload_n 0, 1) := by decide +kernel
theorem dX3_leastFrame_5 : decode cX3_leastFrame 5 = .ok (.getfield 31, 3) := by decide +kernel
theorem dX3_leastFrame_8 : decode cX3_leastFrame 8 = .ok (.aload_n 0, 1) := by decide +kernel
theorem dX3_leastFrame_9 : decode cX3_leastFrame 9 = .ok (.getfield 10, 3) := by decide +kernel
theorem dX3_leastFrame_12 : decode cX3_leastFrame 12 = .ok (.getfield 63, 3) := by decide +kernel
theorem dX3_leastFrame_15 : decode cX3_leastFrame 15 = .ok (.aload_n 0, 1) := by decide +kernel
theorem dX3_leastFrame_16 : decode cX3_leastFrame 16 = .ok (.getfield 16, 3) := by decide +kernel
theorem dX3_leastFrame_19 : decode cX3_leastFrame 19 = .ok (.getfield 63, 3) := by decide +kernel
theorem dX3_leastFrame_22 : decode cX3_leastFrame 22 = .ok (.ior, 1) := by decide +kernel
theorem dX3_leastFrame_23 : decode cX3_leastFrame 23 = .ok (.invokevirtual 66, 3) := by decide +kernel
theorem dX3_leastFrame_26 : decode cX3_leastFrame 26 = .ok (.iconst 1, 1) := by decide +kernel
theorem dX3_leastFrame_27 : decode cX3_leastFrame 27 = .ok (.istore_n 3, 1) := by decide +kernel
theorem dX3_leastFrame_28 : decode cX3_leastFrame 28 = .ok (.iconst 0, 1) := by decide +kernel
theorem dX3_leastFrame_29 : decode cX3_leastFrame 29 = .ok (.istore 4, 2) := by decide +kernel
theorem dX3_leastFrame_31 : decode cX3_leastFrame 31 = .ok (.iload 4, 2) := by decide +kernel
theorem dX3_leastFrame_33 : decode cX3_leastFrame 33 = .ok (.sipush 203, 3) := by decide +kernel
theorem dX3_leastFrame_36 : decode cX3_leastFrame 36 = .ok (.if_icmp .ge 90, 3) := by decide +kernel
theorem dX3_leastFrame_39 : decode cX3_leastFrame 39 = .ok (.iload_n 3, 1) := by decide +kernel
theorem dX3_leastFrame_40 : decode cX3_leastFrame 40 = .ok (.ifCond .eq 86, 3) := by decide +kernel
theorem dX3_leastFrame_43 : decode cX3_leastFrame 43 = .ok (.aload_n 0, 1) := by decide +kernel
theorem dX3_leastFrame_44 : decode cX3_leastFrame 44 = .ok (.getfield 31, 3) := by decide +kernel
theorem dX3_leastFrame_47 : decode cX3_leastFrame 47 = .ok (.aload_n 0, 1) := by decide +kernel
theorem dX3_leastFrame_48 : decode cX3_leastFrame 48 = .ok (.getfield 10, 3) := by decide +kernel
theorem dX3_leastFrame_51 : decode cX3_leastFrame 51 = .ok (.invokevirtual 69, 3) := by decide +kernel
theorem dX3_leastFrame_54 : decode cX3_leastFrame 54 = .ok (.ifCond .eq 58, 3) := by decide +kernel
theorem dX3_leastFrame_57 : decode cX3_leastFrame 57 = .ok (.aload_n 0, 1) := by decide +kernel
theorem dX3_leastFrame_58 : decode cX3_leastFrame 58 = .ok (.getfield 31, 3) := by decide +kernel
theorem dX3_leastFrame_61 : decode cX3_leastFrame 61 = .ok (.getfield 153, 3) := by decide +kernel
theorem dX3_leastFrame_64 : decode cX3_leastFrame 64 = .ok (.aload_n 0, 1) := by decide +kernel
theorem dX3_leastFrame_65 : decode cX3_leastFrame 65 = .ok (.getfield 16, 3) := by decide +kernel
theorem dX3_leastFrame_68 : decode cX3_leastFrame 68 = .ok (.invokevirtual 106, 3) := by decide +kernel
theorem dX3_leastFrame_71 : decode cX3_leastFrame 71 = .ok (.istore 5, 2) := by decide +kernel
theorem dX3_leastFrame_73 : decode cX3_leastFrame 73 = .ok (.iload 5, 2) := by decide +kernel
theorem dX3_leastFrame_75 : decode cX3_leastFrame 75 = .ok (.iconst (-1), 1) := by decide +kernel
theorem dX3_leastFrame_76 : decode cX3_leastFrame 76 = .ok (.if_icmp .ne 5, 3) := by decide +kernel
theorem dX3_leastFrame_79 : decode cX3_leastFrame 79 = .ok (.iconst (-1), 1) := by decide +kernel
theorem dX3_leastFrame_80 : decode cX3_leastFrame 80 = .ok (.ireturn, 1) := by decide +kernel
theorem dX3_leastFrame_81 : decode cX3_leastFrame 81 = .ok (.iload_n 2, 1) := by decide +kernel
theorem dX3_leastFrame_82 : decode cX3_leastFrame 82 = .ok (.iload 5, 2) := by decide +kernel
theorem dX3_leastFrame_84 : decode cX3_leastFrame 84 = .ok (.ior, 1) := by decide +kernel
theorem dX3_leastFrame_85 : decode cX3_leastFrame 85 = .ok (.istore_n 2, 1) := by decide +kernel
theorem dX3_leastFrame_86 : decode cX3_leastFrame 86 = .ok (.iload_n 1, 1) := by decide +kernel
theorem dX3_leastFrame_87 : decode cX3_leastFrame 87 = .ok (.aload_n 0, 1) := by decide +kernel
theorem dX3_leastFrame_88 : decode cX3_leastFrame 88 = .ok (.getfield 31, 3) := by decide +kernel
theorem dX3_leastFrame_91 : decode cX3_leastFrame 91 = .ok (.getfield 153, 3) := by decide +kernel
theorem dX3_leastFrame_94 : decode cX3_leastFrame 94 = .ok (.getfield 110, 3) := by decide +kernel
theorem dX3_leastFrame_97 : decode cX3_leastFrame 97 = .ok (.iload 5, 2) := by decide +kernel
theorem dX3_leastFrame_99 : decode cX3_leastFrame 99 = .ok (.iconst (-1), 1) := by decide +kernel
theorem dX3_leastFrame_100 : decode cX3_leastFrame 100 = .ok (.ixor, 1) := by decide +kernel
theorem dX3_leastFrame_101 : decode cX3_leastFrame 101 = .ok (.iand, 1) := by decide +kernel
theorem dX3_leastFrame_102 : decode cX3_leastFrame 102 = .ok (.ior, 1) := by decide +kernel
theorem dX3_leastFrame_103 : decode cX3_leastFrame 103 = .ok (.istore_n 1, 1) := by decide +kernel
theorem dX3_leastFrame_104 : decode cX3_leastFrame 104 = .ok (.iload_n 1, 1) := by decide +kernel
theorem dX3_leastFrame_105 : decode cX3_leastFrame 105 = .ok (.iload_n 2, 1) := by decide +kernel
theorem dX3_leastFrame_106 : decode cX3_leastFrame 106 = .ok (.iand, 1) := by decide +kernel
theorem dX3_leastFrame_107 : decode cX3_leastFrame 107 = .ok (.ifCond .eq 5, 3) := by decide +kernel
theorem dX3_leastFrame_110 : decode cX3_leastFrame 110 = .ok (.iconst (-1), 1) := by decide +kernel
theorem dX3_leastFrame_111 : decode cX3_leastFrame 111 = .ok (.ireturn, 1) := by decide +kernel
theorem dX3_leastFrame_112 : decode cX3_leastFrame 112 = .ok (.aload_n 0, 1) := by decide +kernel
theorem dX3_leastFrame_113 : decode cX3_leastFrame 113 = .ok (.getfield 31, 3) := by decide +kernel
theorem dX3_leastFrame_116 : decode cX3_leastFrame 116 = .ok (.invokevirtual 73, 3) := by decide +kernel
theorem dX3_leastFrame_119 : decode cX3_leastFrame 119 = .ok (.istore_n 3, 1) := by decide +kernel
theorem dX3_leastFrame_120 : decode cX3_leastFrame 120 = .ok (.iinc 4 1, 3) := by decide +kernel
theorem dX3_leastFrame_123 : decode cX3_leastFrame 123 = .ok (.goto (-92), 3) := by decide +kernel
theorem dX3_leastFrame_126 : decode cX3_leastFrame 126 = .ok (.iload_n 1, 1) := by decide +kernel
theorem dX3_leastFrame_127 : decode cX3_leastFrame 127 = .ok (.ireturn, 1) := by decide +kernel
theorem dX3_frame_0 : decode cX3_frame 0 = .ok (.aload_n 0, 1) := by decide +kernel
theorem dX3_frame_1 : decode cX3_frame 1 = .ok (.invokevirtual 77, 3) := by decide +kernel
theorem dX3_frame_4 : decode cX3_frame 4 = .ok (.ireturn, 1) := by decide +kernel
theorem dX3_next_0 : decode cX3_next 0 = .ok (.aload_n 0, 1) := by decide +kernel
theorem dX3_next_1 : decode cX3_next 1 = .ok (.getfield 24, 3) := by decide +kernel
theorem dX3_next_4 : decode cX3_next 4 = .ok (.iload_n 1, 1) := by decide +kernel
theorem dX3_next_5 : decode cX3_next 5 = .ok (.invokevirtual 130, 3) := by decide +kernel
theorem dX3_next_8 : decode cX3_next 8 = .ok (.ifCond .eq 15, 3) := by decide +kernel
theorem dX3_next_11 : decode cX3_next 11 = .ok (.aload_n 0, 1) := by decide +kernel
theorem dX3_next_12 : decode cX3_next 12 = .ok (.getfield 24, 3) := by decide +kernel
theorem dX3_next_15 : decode cX3_next 15 = .ok (.getfield 116, 3) := by decide +kernel
theorem dX3_next_18 : decode cX3_next 18 = .ok (.iload_n 1, 1) := by decide +kernel
theorem dX3_next_19 : decode cX3_next 19 = .ok (.iaload, 1) := by decide +kernel
theorem dX3_next_20 : decode cX3_next 20 = .ok (.goto 4, 3) := by decide +kernel
theorem dX3_next_23 : decode cX3_next 23 = .ok (.iconst (-1), 1) := by decide +kernel
theorem dX3_next_24 : decode cX3_next 24 = .ok (.ireturn, 1) := by decide +kernel
theorem dX3_count_0 : decode cX3_count 0 = .ok (.aload_n 0, 1) := by decide +kernel
theorem dX3_count_1 : decode cX3_count 1 = .ok (.getfield 24, 3) := by decide +kernel
theorem dX3_count_4 : decode cX3_count 4 = .ok (.getfield 110, 3) := by decide +kernel
theorem dX3_count_7 : decode cX3_count 7 = .ok (.invokestatic 134, 3) := by decide +kernel
theorem dX3_count_10 : decode cX3_count 10 = .ok (.ireturn, 1) := by decide +kernel
theorem dX3_pair_0 : decode cX3_pair 0 = .ok (.aload_n 0, 1) := by decide +kernel
theorem dX3_pair_1 : decode cX3_pair 1 = .ok (.iload_n 1, 1) := by decide +kernel
theorem dX3_pair_2 : decode cX3_pair 2 = .ok (.invokevirtual 35, 3) := by decide +kernel
theorem dX3_pair_5 : decode cX3_pair 5 = .ok (.astore 5, 2) := by decide +kernel
theorem dX3_pair_7 : decode cX3_pair 7 = .ok (.aload_n 0, 1) := by decide +kernel
theorem dX3_pair_8 : decode cX3_pair 8 = .ok (.iload_n 2, 1) := by decide +kernel
theorem dX3_pair_9 : decode cX3_pair 9 = .ok (.invokevirtual 39, 3) := by decide +kernel
theorem dX3_pair_12 : decode cX3_pair 12 = .ok (.aload_n 0, 1) := by decide +kernel
theorem dX3_pair_13 : decode cX3_pair 13 = .ok (.iload_n 3, 1) := by decide +kernel
theorem dX3_pair_14 : decode cX3_pair 14 = .ok (.invokevirtual 39, 3) := by decide +kernel
theorem dX3_pair_17 : decode cX3_pair 17 = .ok (.aload 5, 2) := by decide +kernel
theorem dX3_pair_19 : decode cX3_pair 19 = .ok (.iload_n 2, 1) := by decide +kernel
theorem dX3_pair_20 : decode cX3_pair 20 = .ok (.iload_n 3, 1) := by decide +kernel
theorem dX3_pair_21 : decode cX3_pair 21 = .ok (.iload 4, 2) := by decide +kernel
theorem dX3_pair_23 : decode cX3_pair 23 = .ok (.invokevirtual 42, 3) := by decide +kernel
theorem dX3_pair_26 : decode cX3_pair 26 = .ok (.return_, 1) := by decide +kernel
theorem dX3_claimAt_0 : decode cX3_claimAt 0 = .ok (.iload_n 1, 1) := by decide +kernel
theorem dX3_claimAt_1 : decode cX3_claimAt 1 = .ok (.ifCond .eq 18, 3) := by decide +kernel
theorem dX3_claimAt_4 : decode cX3_claimAt 4 = .ok (.iload_n 1, 1) := by decide +kernel
theorem dX3_claimAt_5 : decode cX3_claimAt 5 = .ok (.iconst 1, 1) := by decide +kernel
theorem dX3_claimAt_6 : decode cX3_claimAt 6 = .ok (.if_icmp .eq 13, 3) := by decide +kernel
theorem dX3_claimAt_9 : decode cX3_claimAt 9 = .ok (.new 140, 3) := by decide +kernel
theorem dX3_claimAt_12 : decode cX3_claimAt 12 = .ok (.dup, 1) := by decide +kernel
theorem dX3_claimAt_13 : decode cX3_claimAt 13 = .ok (.ldc 142, 2) := by decide +kernel
theorem dX3_claimAt_15 : decode cX3_claimAt 15 = .ok (.invokespecial 144, 3) := by decide +kernel
theorem dX3_claimAt_18 : decode cX3_claimAt 18 = .ok (.athrow, 1) := by decide +kernel
theorem dX3_claimAt_19 : decode cX3_claimAt 19 = .ok (.iload_n 1, 1) := by decide +kernel
theorem dX3_claimAt_20 : decode cX3_claimAt 20 = .ok (.ifCond .ne 10, 3) := by decide +kernel
theorem dX3_claimAt_23 : decode cX3_claimAt 23 = .ok (.aload_n 0, 1) := by decide +kernel
theorem dX3_claimAt_24 : decode cX3_claimAt 24 = .ok (.getfield 10, 3) := by decide +kernel
theorem dX3_claimAt_27 : decode cX3_claimAt 27 = .ok (.goto 7, 3) := by decide +kernel
theorem dX3_claimAt_30 : decode cX3_claimAt 30 = .ok (.aload_n 0, 1) := by decide +kernel
theorem dX3_claimAt_31 : decode cX3_claimAt 31 = .ok (.getfield 16, 3) := by decide +kernel
theorem dX3_claimAt_34 : decode cX3_claimAt 34 = .ok (.areturn, 1) := by decide +kernel
theorem dX3_checkTerm_0 : decode cX3_checkTerm 0 = .ok (.iload_n 1, 1) := by decide +kernel
theorem dX3_checkTerm_1 : decode cX3_checkTerm 1 = .ok (.ifCond .lt 9, 3) := by decide +kernel
theorem dX3_checkTerm_4 : decode cX3_checkTerm 4 = .ok (.iload_n 1, 1) := by decide +kernel
theorem dX3_checkTerm_5 : decode cX3_checkTerm 5 = .ok (.bipush 6, 2) := by decide +kernel
theorem dX3_checkTerm_7 : decode cX3_checkTerm 7 = .ok (.if_icmp .lt 13, 3) := by decide +kernel
theorem dX3_checkTerm_10 : decode cX3_checkTerm 10 = .ok (.new 140, 3) := by decide +kernel
theorem dX3_checkTerm_13 : decode cX3_checkTerm 13 = .ok (.dup, 1) := by decide +kernel
theorem dX3_checkTerm_14 : decode cX3_checkTerm 14 = .ok (.ldc 145, 2) := by decide +kernel
theorem dX3_checkTerm_16 : decode cX3_checkTerm 16 = .ok (.invokespecial 144, 3) := by decide +kernel
theorem dX3_checkTerm_19 : decode cX3_checkTerm 19 = .ok (.athrow, 1) := by decide +kernel
theorem dX3_checkTerm_20 : decode cX3_checkTerm 20 = .ok (.return_, 1) := by decide +kernel
theorem dX3_piece_0 : decode cX3_piece 0 = .ok (.aload_n 0, 1) := by decide +kernel
theorem dX3_piece_1 : decode cX3_piece 1 = .ok (.iload_n 1, 1) := by decide +kernel
theorem dX3_piece_2 : decode cX3_piece 2 = .ok (.invokevirtual 35, 3) := by decide +kernel
theorem dX3_piece_5 : decode cX3_piece 5 = .ok (.astore 5, 2) := by decide +kernel
theorem dX3_piece_7 : decode cX3_piece 7 = .ok (.aload_n 0, 1) := by decide +kernel
theorem dX3_piece_8 : decode cX3_piece 8 = .ok (.iload_n 2, 1) := by decide +kernel
theorem dX3_piece_9 : decode cX3_piece 9 = .ok (.invokevirtual 39, 3) := by decide +kernel
theorem dX3_piece_12 : decode cX3_piece 12 = .ok (.aload_n 0, 1) := by decide +kernel
theorem dX3_piece_13 : decode cX3_piece 13 = .ok (.iload_n 3, 1) := by decide +kernel
theorem dX3_piece_14 : decode cX3_piece 14 = .ok (.invokevirtual 39, 3) := by decide +kernel
theorem dX3_piece_17 : decode cX3_piece 17 = .ok (.aload 5, 2) := by decide +kernel
theorem dX3_piece_19 : decode cX3_piece 19 = .ok (.getfield 46, 3) := by decide +kernel
theorem dX3_piece_22 : decode cX3_piece 22 = .ok (.iconst 5, 1) := by decide +kernel
theorem dX3_piece_23 : decode cX3_piece 23 = .ok (.if_icmp .ne 13, 3) := by decide +kernel
theorem dX3_piece_26 : decode cX3_piece 26 = .ok (.new 50, 3) := by decide +kernel
theorem dX3_piece_29 : decode cX3_piece 29 = .ok (.dup, 1) := by decide +kernel
theorem dX3_piece_30 : decode cX3_piece 30 = .ok (.ldc 52, 2) := by decide +kernel
theorem dX3_piece_32 : decode cX3_piece 32 = .ok (.invokespecial 54, 3) := by decide +kernel
theorem dX3_piece_35 : decode cX3_piece 35 = .ok (.athrow, 1) := by decide +kernel
theorem dX3_piece_36 : decode cX3_piece 36 = .ok (.aload 5, 2) := by decide +kernel
theorem dX3_piece_38 : decode cX3_piece 38 = .ok (.iload_n 2, 1) := by decide +kernel
theorem dX3_piece_39 : decode cX3_piece 39 = .ok (.iload_n 3, 1) := by decide +kernel
theorem dX3_piece_40 : decode cX3_piece 40 = .ok (.iload 4, 2) := by decide +kernel
theorem dX3_piece_42 : decode cX3_piece 42 = .ok (.invokevirtual 57, 3) := by decide +kernel
theorem dX3_piece_45 : decode cX3_piece 45 = .ok (.aload 5, 2) := by decide +kernel
theorem dX3_piece_47 : decode cX3_piece 47 = .ok (.getfield 46, 3) := by decide +kernel
theorem dX3_piece_50 : decode cX3_piece 50 = .ok (.iconst 1, 1) := by decide +kernel
theorem dX3_piece_51 : decode cX3_piece 51 = .ok (.isub, 1) := by decide +kernel
theorem dX3_piece_52 : decode cX3_piece 52 = .ok (.ireturn, 1) := by decide +kernel
theorem dX3_clear_0 : decode cX3_clear 0 = .ok (.aload_n 0, 1) := by decide +kernel
theorem dX3_clear_1 : decode cX3_clear 1 = .ok (.iload_n 1, 1) := by decide +kernel
theorem dX3_clear_2 : decode cX3_clear 2 = .ok (.invokevirtual 35, 3) := by decide +kernel
theorem dX3_clear_5 : decode cX3_clear 5 = .ok (.invokevirtual 60, 3) := by decide +kernel
theorem dX3_clear_8 : decode cX3_clear 8 = .ok (.return_, 1) := by decide +kernel
theorem dX3_pieces_0 : decode cX3_pieces 0 = .ok (.aload_n 0, 1) := by decide +kernel
theorem dX3_pieces_1 : decode cX3_pieces 1 = .ok (.iload_n 1, 1) := by decide +kernel
theorem dX3_pieces_2 : decode cX3_pieces 2 = .ok (.invokevirtual 35, 3) := by decide +kernel
theorem dX3_pieces_5 : decode cX3_pieces 5 = .ok (.getfield 46, 3) := by decide +kernel
theorem dX3_pieces_8 : decode cX3_pieces 8 = .ok (.ireturn, 1) := by decide +kernel
theorem dX3_possible_0 : decode cX3_possible 0 = .ok (.aload_n 0, 1) := by decide +kernel
theorem dX3_possible_1 : decode cX3_possible 1 = .ok (.iload_n 1, 1) := by decide +kernel
theorem dX3_possible_2 : decode cX3_possible 2 = .ok (.invokevirtual 35, 3) := by decide +kernel
theorem dX3_possible_5 : decode cX3_possible 5 = .ok (.astore_n 2, 1) := by decide +kernel
theorem dX3_possible_6 : decode cX3_possible 6 = .ok (.aload_n 0, 1) := by decide +kernel
theorem dX3_possible_7 : decode cX3_possible 7 = .ok (.getfield 31, 3) := by decide +kernel
theorem dX3_possible_10 : decode cX3_possible 10 = .ok (.aload_n 2, 1) := by decide +kernel
theorem dX3_possible_11 : decode cX3_possible 11 = .ok (.getfield 63, 3) := by decide +kernel
theorem dX3_possible_14 : decode cX3_possible 14 = .ok (.invokevirtual 66, 3) := by decide +kernel
theorem dX3_possible_17 : decode cX3_possible 17 = .ok (.iconst 1, 1) := by decide +kernel
theorem dX3_possible_18 : decode cX3_possible 18 = .ok (.istore_n 3, 1) := by decide +kernel
theorem dX3_possible_19 : decode cX3_possible 19 = .ok (.iconst 0, 1) := by decide +kernel
theorem dX3_possible_20 : decode cX3_possible 20 = .ok (.istore 4, 2) := by decide +kernel
theorem dX3_possible_22 : decode cX3_possible 22 = .ok (.iload 4, 2) := by decide +kernel
theorem dX3_possible_24 : decode cX3_possible 24 = .ok (.sipush 203, 3) := by decide +kernel
theorem dX3_possible_27 : decode cX3_possible 27 = .ok (.if_icmp .ge 34, 3) := by decide +kernel
theorem dX3_possible_30 : decode cX3_possible 30 = .ok (.iload_n 3, 1) := by decide +kernel
theorem dX3_possible_31 : decode cX3_possible 31 = .ok (.ifCond .eq 30, 3) := by decide +kernel
theorem dX3_possible_34 : decode cX3_possible 34 = .ok (.aload_n 0, 1) := by decide +kernel
theorem dX3_possible_35 : decode cX3_possible 35 = .ok (.getfield 31, 3) := by decide +kernel
theorem dX3_possible_38 : decode cX3_possible 38 = .ok (.aload_n 2, 1) := by decide +kernel
theorem dX3_possible_39 : decode cX3_possible 39 = .ok (.invokevirtual 69, 3) := by decide +kernel
theorem dX3_possible_42 : decode cX3_possible 42 = .ok (.ifCond .eq 5, 3) := by decide +kernel
theorem dX3_possible_45 : decode cX3_possible 45 = .ok (.iconst 1, 1) := by decide +kernel
theorem dX3_possible_46 : decode cX3_possible 46 = .ok (.ireturn, 1) := by decide +kernel
theorem dX3_possible_47 : decode cX3_possible 47 = .ok (.aload_n 0, 1) := by decide +kernel
theorem dX3_possible_48 : decode cX3_possible 48 = .ok (.getfield 31, 3) := by decide +kernel
theorem dX3_possible_51 : decode cX3_possible 51 = .ok (.invokevirtual 73, 3) := by decide +kernel
theorem dX3_possible_54 : decode cX3_possible 54 = .ok (.istore_n 3, 1) := by decide +kernel
theorem dX3_possible_55 : decode cX3_possible 55 = .ok (.iinc 4 1, 3) := by decide +kernel
theorem dX3_possible_58 : decode cX3_possible 58 = .ok (.goto (-36), 3) := by decide +kernel
theorem dX3_possible_61 : decode cX3_possible 61 = .ok (.iconst 0, 1) := by decide +kernel
theorem dX3_possible_62 : decode cX3_possible 62 = .ok (.ireturn, 1) := by decide +kernel
theorem dX3_sure_0 : decode cX3_sure 0 = .ok (.aload_n 0, 1) := by decide +kernel
theorem dX3_sure_1 : decode cX3_sure 1 = .ok (.iload_n 2, 1) := by decide +kernel
theorem dX3_sure_2 : decode cX3_sure 2 = .ok (.invokevirtual 39, 3) := by decide +kernel
theorem dX3_sure_5 : decode cX3_sure 5 = .ok (.aload_n 0, 1) := by decide +kernel
theorem dX3_sure_6 : decode cX3_sure 6 = .ok (.iload_n 3, 1) := by decide +kernel
theorem dX3_sure_7 : decode cX3_sure 7 = .ok (.invokevirtual 39, 3) := by decide +kernel
theorem dX3_sure_10 : decode cX3_sure 10 = .ok (.iload_n 1, 1) := by decide +kernel
theorem dX3_sure_11 : decode cX3_sure 11 = .ok (.ifCond .eq 23, 3) := by decide +kernel
theorem dX3_sure_14 : decode cX3_sure 14 = .ok (.iload_n 1, 1) := by decide +kernel
theorem dX3_sure_15 : decode cX3_sure 15 = .ok (.iconst 1, 1) := by decide +kernel
theorem dX3_sure_16 : decode cX3_sure 16 = .ok (.if_icmp .eq 18, 3) := by decide +kernel
theorem dX3_sure_19 : decode cX3_sure 19 = .ok (.iload_n 1, 1) := by decide +kernel
theorem dX3_sure_20 : decode cX3_sure 20 = .ok (.iconst 2, 1) := by decide +kernel
theorem dX3_sure_21 : decode cX3_sure 21 = .ok (.if_icmp .eq 13, 3) := by decide +kernel
theorem dX3_sure_24 : decode cX3_sure 24 = .ok (.new 81, 3) := by decide +kernel
theorem dX3_sure_27 : decode cX3_sure 27 = .ok (.dup, 1) := by decide +kernel
theorem dX3_sure_28 : decode cX3_sure 28 = .ok (.ldc 83, 2) := by decide +kernel
theorem dX3_sure_30 : decode cX3_sure 30 = .ok (.invokespecial 85, 3) := by decide +kernel
theorem dX3_sure_33 : decode cX3_sure 33 = .ok (.athrow, 1) := by decide +kernel
theorem dX3_sure_34 : decode cX3_sure 34 = .ok (.aload_n 0, 1) := by decide +kernel
theorem dX3_sure_35 : decode cX3_sure 35 = .ok (.getfield 31, 3) := by decide +kernel
theorem dX3_sure_38 : decode cX3_sure 38 = .ok (.aload_n 0, 1) := by decide +kernel
theorem dX3_sure_39 : decode cX3_sure 39 = .ok (.getfield 10, 3) := by decide +kernel
theorem dX3_sure_42 : decode cX3_sure 42 = .ok (.getfield 63, 3) := by decide +kernel
theorem dX3_sure_45 : decode cX3_sure 45 = .ok (.iconst 1, 1) := by decide +kernel
theorem dX3_sure_46 : decode cX3_sure 46 = .ok (.iload_n 2, 1) := by decide +kernel
theorem dX3_sure_47 : decode cX3_sure 47 = .ok (.ishl, 1) := by decide +kernel
theorem dX3_sure_48 : decode cX3_sure 48 = .ok (.ior, 1) := by decide +kernel
theorem dX3_sure_49 : decode cX3_sure 49 = .ok (.iconst 1, 1) := by decide +kernel
theorem dX3_sure_50 : decode cX3_sure 50 = .ok (.iload_n 3, 1) := by decide +kernel
theorem dX3_sure_51 : decode cX3_sure 51 = .ok (.ishl, 1) := by decide +kernel
theorem dX3_sure_52 : decode cX3_sure 52 = .ok (.ior, 1) := by decide +kernel
theorem dX3_sure_53 : decode cX3_sure 53 = .ok (.invokevirtual 66, 3) := by decide +kernel
theorem dX3_sure_56 : decode cX3_sure 56 = .ok (.iconst 1, 1) := by decide +kernel
theorem dX3_sure_57 : decode cX3_sure 57 = .ok (.istore 4, 2) := by decide +kernel
theorem dX3_sure_59 : decode cX3_sure 59 = .ok (.iconst 0, 1) := by decide +kernel
theorem dX3_sure_60 : decode cX3_sure 60 = .ok (.istore 5, 2) := by decide +kernel
theorem dX3_sure_62 : decode cX3_sure 62 = .ok (.iload 5, 2) := by decide +kernel
theorem dX3_sure_64 : decode cX3_sure 64 = .ok (.sipush 203, 3) := by decide +kernel
theorem dX3_sure_67 : decode cX3_sure 67 = .ok (.if_icmp .ge 49, 3) := by decide +kernel
theorem dX3_sure_70 : decode cX3_sure 70 = .ok (.iload 4, 2) := by decide +kernel
theorem dX3_sure_72 : decode cX3_sure 72 = .ok (.ifCond .eq 44, 3) := by decide +kernel
theorem dX3_sure_75 : decode cX3_sure 75 = .ok (.aload_n 0, 1) := by decide +kernel
theorem dX3_sure_76 : decode cX3_sure 76 = .ok (.getfield 31, 3) := by decide +kernel
theorem dX3_sure_79 : decode cX3_sure 79 = .ok (.aload_n 0, 1) := by decide +kernel
theorem dX3_sure_80 : decode cX3_sure 80 = .ok (.getfield 10, 3) := by decide +kernel
theorem dX3_sure_83 : decode cX3_sure 83 = .ok (.invokevirtual 69, 3) := by decide +kernel
theorem dX3_sure_86 : decode cX3_sure 86 = .ok (.ifCond .eq 15, 3) := by decide +kernel
theorem dX3_sure_89 : decode cX3_sure 89 = .ok (.aload_n 0, 1) := by decide +kernel
theorem dX3_sure_90 : decode cX3_sure 90 = .ok (.iload_n 1, 1) := by decide +kernel
theorem dX3_sure_91 : decode cX3_sure 91 = .ok (.iload_n 2, 1) := by decide +kernel
theorem dX3_sure_92 : decode cX3_sure 92 = .ok (.iload_n 3, 1) := by decide +kernel
theorem dX3_sure_93 : decode cX3_sure 93 = .ok (.invokevirtual 86, 3) := by decide +kernel
theorem dX3_sure_96 : decode cX3_sure 96 = .ok (.ifCond .ne 5, 3) := by decide +kernel
theorem dX3_sure_99 : decode cX3_sure 99 = .ok (.iconst 0, 1) := by decide +kernel
theorem dX3_sure_100 : decode cX3_sure 100 = .ok (.ireturn, 1) := by decide +kernel
theorem dX3_sure_101 : decode cX3_sure 101 = .ok (.aload_n 0, 1) := by decide +kernel
theorem dX3_sure_102 : decode cX3_sure 102 = .ok (.getfield 31, 3) := by decide +kernel
theorem dX3_sure_105 : decode cX3_sure 105 = .ok (.invokevirtual 73, 3) := by decide +kernel
theorem dX3_sure_108 : decode cX3_sure 108 = .ok (.istore 4, 2) := by decide +kernel
theorem dX3_sure_110 : decode cX3_sure 110 = .ok (.iinc 5 1, 3) := by decide +kernel
theorem dX3_sure_113 : decode cX3_sure 113 = .ok (.goto (-51), 3) := by decide +kernel
theorem dX3_sure_116 : decode cX3_sure 116 = .ok (.iconst 1, 1) := by decide +kernel
theorem dX3_sure_117 : decode cX3_sure 117 = .ok (.ireturn, 1) := by decide +kernel
theorem dX3_isSo_0 : decode cX3_isSo 0 = .ok (.aload_n 0, 1) := by decide +kernel
theorem dX3_isSo_1 : decode cX3_isSo 1 = .ok (.getfield 31, 3) := by decide +kernel
theorem dX3_isSo_4 : decode cX3_isSo 4 = .ok (.getfield 153, 3) := by decide +kernel
theorem dX3_isSo_7 : decode cX3_isSo 7 = .ok (.astore 4, 2) := by decide +kernel
theorem dX3_isSo_9 : decode cX3_isSo 9 = .ok (.iload_n 1, 1) := by decide +kernel
theorem dX3_isSo_10 : decode cX3_isSo 10 = .ok (.iconst 2, 1) := by decide +kernel
theorem dX3_isSo_11 : decode cX3_isSo 11 = .ok (.if_icmp .ne 16, 3) := by decide +kernel
theorem dX3_isSo_14 : decode cX3_isSo 14 = .ok (.aload 4, 2) := by decide +kernel
theorem dX3_isSo_16 : decode cX3_isSo 16 = .ok (.aload 4, 2) := by decide +kernel
theorem dX3_isSo_18 : decode cX3_isSo 18 = .ok (.getfield 96, 3) := by decide +kernel
theorem dX3_isSo_21 : decode cX3_isSo 21 = .ok (.iload_n 2, 1) := by decide +kernel
theorem dX3_isSo_22 : decode cX3_isSo 22 = .ok (.iaload, 1) := by decide +kernel
theorem dX3_isSo_23 : decode cX3_isSo 23 = .ok (.invokevirtual 130, 3) := by decide +kernel
theorem dX3_isSo_26 : decode cX3_isSo 26 = .ok (.ireturn, 1) := by decide +kernel
theorem dX3_isSo_27 : decode cX3_isSo 27 = .ok (.aload 4, 2) := by decide +kernel
theorem dX3_isSo_29 : decode cX3_isSo 29 = .ok (.getfield 96, 3) := by decide +kernel
theorem dX3_isSo_32 : decode cX3_isSo 32 = .ok (.iload_n 2, 1) := by decide +kernel
theorem dX3_isSo_33 : decode cX3_isSo 33 = .ok (.iaload, 1) := by decide +kernel
theorem dX3_isSo_34 : decode cX3_isSo 34 = .ok (.aload 4, 2) := by decide +kernel
theorem dX3_isSo_36 : decode cX3_isSo 36 = .ok (.getfield 96, 3) := by decide +kernel
theorem dX3_isSo_39 : decode cX3_isSo 39 = .ok (.iload_n 3, 1) := by decide +kernel
theorem dX3_isSo_40 : decode cX3_isSo 40 = .ok (.iaload, 1) := by decide +kernel
theorem dX3_isSo_41 : decode cX3_isSo 41 = .ok (.if_icmp .ne 7, 3) := by decide +kernel
theorem dX3_isSo_44 : decode cX3_isSo 44 = .ok (.iconst 1, 1) := by decide +kernel
theorem dX3_isSo_45 : decode cX3_isSo 45 = .ok (.goto 4, 3) := by decide +kernel
theorem dX3_isSo_48 : decode cX3_isSo 48 = .ok (.iconst 0, 1) := by decide +kernel
theorem dX3_isSo_49 : decode cX3_isSo 49 = .ok (.iload_n 1, 1) := by decide +kernel
theorem dX3_isSo_50 : decode cX3_isSo 50 = .ok (.ifCond .ne 7, 3) := by decide +kernel
theorem dX3_isSo_53 : decode cX3_isSo 53 = .ok (.iconst 1, 1) := by decide +kernel
theorem dX3_isSo_54 : decode cX3_isSo 54 = .ok (.goto 4, 3) := by decide +kernel
theorem dX3_isSo_57 : decode cX3_isSo 57 = .ok (.iconst 0, 1) := by decide +kernel
theorem dX3_isSo_58 : decode cX3_isSo 58 = .ok (.if_icmp .ne 7, 3) := by decide +kernel
theorem dX3_isSo_61 : decode cX3_isSo 61 = .ok (.iconst 1, 1) := by decide +kernel
theorem dX3_isSo_62 : decode cX3_isSo 62 = .ok (.goto 4, 3) := by decide +kernel
theorem dX3_isSo_65 : decode cX3_isSo 65 = .ok (.iconst 0, 1) := by decide +kernel
theorem dX3_isSo_66 : decode cX3_isSo 66 = .ok (.ireturn, 1) := by decide +kernel
theorem dX3_give_0 : decode cX3_give 0 = .ok (.aload_n 0, 1) := by decide +kernel
theorem dX3_give_1 : decode cX3_give 1 = .ok (.iload_n 1, 1) := by decide +kernel
theorem dX3_give_2 : decode cX3_give 2 = .ok (.invokevirtual 90, 3) := by decide +kernel
theorem dX3_give_5 : decode cX3_give 5 = .ok (.aload_n 0, 1) := by decide +kernel
theorem dX3_give_6 : decode cX3_give 6 = .ok (.iload_n 2, 1) := by decide +kernel
theorem dX3_give_7 : decode cX3_give 7 = .ok (.invokevirtual 93, 3) := by decide +kernel
theorem dX3_give_10 : decode cX3_give 10 = .ok (.aload_n 0, 1) := by decide +kernel
theorem dX3_give_11 : decode cX3_give 11 = .ok (.getfield 24, 3) := by decide +kernel
theorem dX3_give_14 : decode cX3_give 14 = .ok (.getfield 96, 3) := by decide +kernel
theorem dX3_give_17 : decode cX3_give 17 = .ok (.iload_n 1, 1) := by decide +kernel
theorem dX3_give_18 : decode cX3_give 18 = .ok (.iload_n 2, 1) := by decide +kernel
theorem dX3_give_19 : decode cX3_give 19 = .ok (.iastore, 1) := by decide +kernel
theorem dX3_give_20 : decode cX3_give 20 = .ok (.return_, 1) := by decide +kernel
theorem dX3_checkVariable_0 : decode cX3_checkVariable 0 = .ok (.iload_n 1, 1) := by decide +kernel
theorem dX3_checkVariable_1 : decode cX3_checkVariable 1 = .ok (.ifCond .lt 8, 3) := by decide +kernel
theorem dX3_checkVariable_4 : decode cX3_checkVariable 4 = .ok (.iload_n 1, 1) := by decide +kernel
theorem dX3_checkVariable_5 : decode cX3_checkVariable 5 = .ok (.iconst 5, 1) := by decide +kernel
theorem dX3_checkVariable_6 : decode cX3_checkVariable 6 = .ok (.if_icmp .lt 13, 3) := by decide +kernel
theorem dX3_checkVariable_9 : decode cX3_checkVariable 9 = .ok (.new 140, 3) := by decide +kernel
theorem dX3_checkVariable_12 : decode cX3_checkVariable 12 = .ok (.dup, 1) := by decide +kernel
theorem dX3_checkVariable_13 : decode cX3_checkVariable 13 = .ok (.ldc 147, 2) := by decide +kernel
theorem dX3_checkVariable_15 : decode cX3_checkVariable 15 = .ok (.invokespecial 144, 3) := by decide +kernel
theorem dX3_checkVariable_18 : decode cX3_checkVariable 18 = .ok (.athrow, 1) := by decide +kernel
theorem dX3_checkVariable_19 : decode cX3_checkVariable 19 = .ok (.return_, 1) := by decide +kernel
theorem dX3_checkValue_0 : decode cX3_checkValue 0 = .ok (.iload_n 1, 1) := by decide +kernel
theorem dX3_checkValue_1 : decode cX3_checkValue 1 = .ok (.ifCond .lt 9, 3) := by decide +kernel
theorem dX3_checkValue_4 : decode cX3_checkValue 4 = .ok (.iload_n 1, 1) := by decide +kernel
theorem dX3_checkValue_5 : decode cX3_checkValue 5 = .ok (.bipush 9, 2) := by decide +kernel
theorem dX3_checkValue_7 : decode cX3_checkValue 7 = .ok (.if_icmp .le 13, 3) := by decide +kernel
theorem dX3_checkValue_10 : decode cX3_checkValue 10 = .ok (.new 81, 3) := by decide +kernel
theorem dX3_checkValue_13 : decode cX3_checkValue 13 = .ok (.dup, 1) := by decide +kernel
theorem dX3_checkValue_14 : decode cX3_checkValue 14 = .ok (.ldc 149, 2) := by decide +kernel
theorem dX3_checkValue_16 : decode cX3_checkValue 16 = .ok (.invokespecial 85, 3) := by decide +kernel
theorem dX3_checkValue_19 : decode cX3_checkValue 19 = .ok (.athrow, 1) := by decide +kernel
theorem dX3_checkValue_20 : decode cX3_checkValue 20 = .ok (.return_, 1) := by decide +kernel
theorem dX3_put_0 : decode cX3_put 0 = .ok (.iload_n 1, 1) := by decide +kernel
theorem dX3_put_1 : decode cX3_put 1 = .ok (.ifCond .ne 13, 3) := by decide +kernel
theorem dX3_put_4 : decode cX3_put 4 = .ok (.new 81, 3) := by decide +kernel
theorem dX3_put_7 : decode cX3_put 7 = .ok (.dup, 1) := by decide +kernel
theorem dX3_put_8 : decode cX3_put 8 = .ok (.ldc 100, 2) := by decide +kernel
theorem dX3_put_10 : decode cX3_put 10 = .ok (.invokespecial 85, 3) := by decide +kernel
theorem dX3_put_13 : decode cX3_put 13 = .ok (.athrow, 1) := by decide +kernel
theorem dX3_put_14 : decode cX3_put 14 = .ok (.aload_n 0, 1) := by decide +kernel
theorem dX3_put_15 : decode cX3_put 15 = .ok (.iload_n 1, 1) := by decide +kernel
theorem dX3_put_16 : decode cX3_put 16 = .ok (.invokevirtual 93, 3) := by decide +kernel
theorem dX3_put_19 : decode cX3_put 19 = .ok (.aload_n 0, 1) := by decide +kernel
theorem dX3_put_20 : decode cX3_put 20 = .ok (.iload_n 2, 1) := by decide +kernel
theorem dX3_put_21 : decode cX3_put 21 = .ok (.invokevirtual 93, 3) := by decide +kernel
theorem dX3_put_24 : decode cX3_put 24 = .ok (.aload_n 0, 1) := by decide +kernel
theorem dX3_put_25 : decode cX3_put 25 = .ok (.getfield 24, 3) := by decide +kernel
theorem dX3_put_28 : decode cX3_put 28 = .ok (.iload_n 1, 1) := by decide +kernel
theorem dX3_put_29 : decode cX3_put 29 = .ok (.iload_n 2, 1) := by decide +kernel
theorem dX3_put_30 : decode cX3_put 30 = .ok (.invokevirtual 102, 3) := by decide +kernel
theorem dX3_put_33 : decode cX3_put 33 = .ok (.return_, 1) := by decide +kernel
theorem dX3_holds_0 : decode cX3_holds 0 = .ok (.aload_n 0, 1) := by decide +kernel
theorem dX3_holds_1 : decode cX3_holds 1 = .ok (.getfield 24, 3) := by decide +kernel
theorem dX3_holds_4 : decode cX3_holds 4 = .ok (.aload_n 0, 1) := by decide +kernel
theorem dX3_holds_5 : decode cX3_holds 5 = .ok (.iload_n 1, 1) := by decide +kernel
theorem dX3_holds_6 : decode cX3_holds 6 = .ok (.invokevirtual 35, 3) := by decide +kernel
theorem dX3_holds_9 : decode cX3_holds 9 = .ok (.invokevirtual 106, 3) := by decide +kernel
theorem dX3_holds_12 : decode cX3_holds 12 = .ok (.aload_n 0, 1) := by decide +kernel
theorem dX3_holds_13 : decode cX3_holds 13 = .ok (.getfield 24, 3) := by decide +kernel
theorem dX3_holds_16 : decode cX3_holds 16 = .ok (.getfield 110, 3) := by decide +kernel
theorem dX3_holds_19 : decode cX3_holds 19 = .ok (.if_icmp .ne 7, 3) := by decide +kernel
theorem dX3_holds_22 : decode cX3_holds 22 = .ok (.iconst 1, 1) := by decide +kernel
theorem dX3_holds_23 : decode cX3_holds 23 = .ok (.goto 4, 3) := by decide +kernel
theorem dX3_holds_26 : decode cX3_holds 26 = .ok (.iconst 0, 1) := by decide +kernel
theorem dX3_holds_27 : decode cX3_holds 27 = .ok (.ireturn, 1) := by decide +kernel
theorem dX3_copy_0 : decode cX3_copy 0 = .ok (.aload_n 0, 1) := by decide +kernel
theorem dX3_copy_1 : decode cX3_copy 1 = .ok (.iload_n 1, 1) := by decide +kernel
theorem dX3_copy_2 : decode cX3_copy 2 = .ok (.invokevirtual 90, 3) := by decide +kernel
theorem dX3_copy_5 : decode cX3_copy 5 = .ok (.aload_n 0, 1) := by decide +kernel
theorem dX3_copy_6 : decode cX3_copy 6 = .ok (.iload_n 2, 1) := by decide +kernel
theorem dX3_copy_7 : decode cX3_copy 7 = .ok (.invokevirtual 39, 3) := by decide +kernel
theorem dX3_copy_10 : decode cX3_copy 10 = .ok (.aload_n 0, 1) := by decide +kernel
theorem dX3_copy_11 : decode cX3_copy 11 = .ok (.getfield 24, 3) := by decide +kernel
theorem dX3_copy_14 : decode cX3_copy 14 = .ok (.getfield 96, 3) := by decide +kernel
theorem dX3_copy_17 : decode cX3_copy 17 = .ok (.iload_n 1, 1) := by decide +kernel
theorem dX3_copy_18 : decode cX3_copy 18 = .ok (.aload_n 0, 1) := by decide +kernel
theorem dX3_copy_19 : decode cX3_copy 19 = .ok (.getfield 24, 3) := by decide +kernel
theorem dX3_copy_22 : decode cX3_copy 22 = .ok (.getfield 96, 3) := by decide +kernel
theorem dX3_copy_25 : decode cX3_copy 25 = .ok (.iload_n 2, 1) := by decide +kernel
theorem dX3_copy_26 : decode cX3_copy 26 = .ok (.iaload, 1) := by decide +kernel
theorem dX3_copy_27 : decode cX3_copy 27 = .ok (.iastore, 1) := by decide +kernel
theorem dX3_copy_28 : decode cX3_copy 28 = .ok (.return_, 1) := by decide +kernel
theorem dX3_load_0 : decode cX3_load 0 = .ok (.aload_n 0, 1) := by decide +kernel
theorem dX3_load_1 : decode cX3_load 1 = .ok (.iload_n 1, 1) := by decide +kernel
theorem dX3_load_2 : decode cX3_load 2 = .ok (.invokevirtual 90, 3) := by decide +kernel
theorem dX3_load_5 : decode cX3_load 5 = .ok (.aload_n 0, 1) := by decide +kernel
theorem dX3_load_6 : decode cX3_load 6 = .ok (.iload_n 2, 1) := by decide +kernel
theorem dX3_load_7 : decode cX3_load 7 = .ok (.invokevirtual 90, 3) := by decide +kernel
theorem dX3_load_10 : decode cX3_load 10 = .ok (.aload_n 0, 1) := by decide +kernel
theorem dX3_load_11 : decode cX3_load 11 = .ok (.aload_n 0, 1) := by decide +kernel
theorem dX3_load_12 : decode cX3_load 12 = .ok (.getfield 24, 3) := by decide +kernel
theorem dX3_load_15 : decode cX3_load 15 = .ok (.getfield 96, 3) := by decide +kernel
theorem dX3_load_18 : decode cX3_load 18 = .ok (.iload_n 2, 1) := by decide +kernel
theorem dX3_load_19 : decode cX3_load 19 = .ok (.iaload, 1) := by decide +kernel
theorem dX3_load_20 : decode cX3_load 20 = .ok (.invokevirtual 113, 3) := by decide +kernel
theorem dX3_load_23 : decode cX3_load 23 = .ok (.aload_n 0, 1) := by decide +kernel
theorem dX3_load_24 : decode cX3_load 24 = .ok (.getfield 24, 3) := by decide +kernel
theorem dX3_load_27 : decode cX3_load 27 = .ok (.getfield 96, 3) := by decide +kernel
theorem dX3_load_30 : decode cX3_load 30 = .ok (.iload_n 1, 1) := by decide +kernel
theorem dX3_load_31 : decode cX3_load 31 = .ok (.aload_n 0, 1) := by decide +kernel
theorem dX3_load_32 : decode cX3_load 32 = .ok (.getfield 24, 3) := by decide +kernel
theorem dX3_load_35 : decode cX3_load 35 = .ok (.getfield 116, 3) := by decide +kernel
theorem dX3_load_38 : decode cX3_load 38 = .ok (.aload_n 0, 1) := by decide +kernel
theorem dX3_load_39 : decode cX3_load 39 = .ok (.getfield 24, 3) := by decide +kernel
theorem dX3_load_42 : decode cX3_load 42 = .ok (.getfield 96, 3) := by decide +kernel
theorem dX3_load_45 : decode cX3_load 45 = .ok (.iload_n 2, 1) := by decide +kernel
theorem dX3_load_46 : decode cX3_load 46 = .ok (.iaload, 1) := by decide +kernel
theorem dX3_load_47 : decode cX3_load 47 = .ok (.iaload, 1) := by decide +kernel
theorem dX3_load_48 : decode cX3_load 48 = .ok (.iastore, 1) := by decide +kernel
theorem dX3_load_49 : decode cX3_load 49 = .ok (.return_, 1) := by decide +kernel
theorem dX3_checkCell_0 : decode cX3_checkCell 0 = .ok (.aload_n 0, 1) := by decide +kernel
theorem dX3_checkCell_1 : decode cX3_checkCell 1 = .ok (.getfield 24, 3) := by decide +kernel
theorem dX3_checkCell_4 : decode cX3_checkCell 4 = .ok (.iload_n 1, 1) := by decide +kernel
theorem dX3_checkCell_5 : decode cX3_checkCell 5 = .ok (.invokevirtual 130, 3) := by decide +kernel
theorem dX3_checkCell_8 : decode cX3_checkCell 8 = .ok (.ifCond .ne 13, 3) := by decide +kernel
theorem dX3_checkCell_11 : decode cX3_checkCell 11 = .ok (.new 50, 3) := by decide +kernel
theorem dX3_checkCell_14 : decode cX3_checkCell 14 = .ok (.dup, 1) := by decide +kernel
theorem dX3_checkCell_15 : decode cX3_checkCell 15 = .ok (.ldc 151, 2) := by decide +kernel
theorem dX3_checkCell_17 : decode cX3_checkCell 17 = .ok (.invokespecial 54, 3) := by decide +kernel
theorem dX3_checkCell_20 : decode cX3_checkCell 20 = .ok (.athrow, 1) := by decide +kernel
theorem dX3_checkCell_21 : decode cX3_checkCell 21 = .ok (.return_, 1) := by decide +kernel
theorem dX3_store_0 : decode cX3_store 0 = .ok (.aload_n 0, 1) := by decide +kernel
theorem dX3_store_1 : decode cX3_store 1 = .ok (.iload_n 1, 1) := by decide +kernel
theorem dX3_store_2 : decode cX3_store 2 = .ok (.invokevirtual 90, 3) := by decide +kernel
theorem dX3_store_5 : decode cX3_store 5 = .ok (.aload_n 0, 1) := by decide +kernel
theorem dX3_store_6 : decode cX3_store 6 = .ok (.iload_n 2, 1) := by decide +kernel
theorem dX3_store_7 : decode cX3_store 7 = .ok (.invokevirtual 39, 3) := by decide +kernel
theorem dX3_store_10 : decode cX3_store 10 = .ok (.aload_n 0, 1) := by decide +kernel
theorem dX3_store_11 : decode cX3_store 11 = .ok (.aload_n 0, 1) := by decide +kernel
theorem dX3_store_12 : decode cX3_store 12 = .ok (.getfield 24, 3) := by decide +kernel
theorem dX3_store_15 : decode cX3_store 15 = .ok (.getfield 96, 3) := by decide +kernel
theorem dX3_store_18 : decode cX3_store 18 = .ok (.iload_n 1, 1) := by decide +kernel
theorem dX3_store_19 : decode cX3_store 19 = .ok (.iaload, 1) := by decide +kernel
theorem dX3_store_20 : decode cX3_store 20 = .ok (.invokevirtual 113, 3) := by decide +kernel
theorem dX3_store_23 : decode cX3_store 23 = .ok (.aload_n 0, 1) := by decide +kernel
theorem dX3_store_24 : decode cX3_store 24 = .ok (.getfield 24, 3) := by decide +kernel
theorem dX3_store_27 : decode cX3_store 27 = .ok (.aload_n 0, 1) := by decide +kernel
theorem dX3_store_28 : decode cX3_store 28 = .ok (.getfield 24, 3) := by decide +kernel
theorem dX3_store_31 : decode cX3_store 31 = .ok (.getfield 96, 3) := by decide +kernel
theorem dX3_store_34 : decode cX3_store 34 = .ok (.iload_n 1, 1) := by decide +kernel
theorem dX3_store_35 : decode cX3_store 35 = .ok (.iaload, 1) := by decide +kernel
theorem dX3_store_36 : decode cX3_store 36 = .ok (.aload_n 0, 1) := by decide +kernel
theorem dX3_store_37 : decode cX3_store 37 = .ok (.getfield 24, 3) := by decide +kernel
theorem dX3_store_40 : decode cX3_store 40 = .ok (.getfield 96, 3) := by decide +kernel
theorem dX3_store_43 : decode cX3_store 43 = .ok (.iload_n 2, 1) := by decide +kernel
theorem dX3_store_44 : decode cX3_store 44 = .ok (.iaload, 1) := by decide +kernel
theorem dX3_store_45 : decode cX3_store 45 = .ok (.invokevirtual 102, 3) := by decide +kernel
theorem dX3_store_48 : decode cX3_store 48 = .ok (.return_, 1) := by decide +kernel
theorem dX3_make_0 : decode cX3_make 0 = .ok (.aload_n 0, 1) := by decide +kernel
theorem dX3_make_1 : decode cX3_make 1 = .ok (.iload_n 1, 1) := by decide +kernel
theorem dX3_make_2 : decode cX3_make 2 = .ok (.invokevirtual 90, 3) := by decide +kernel
theorem dX3_make_5 : decode cX3_make 5 = .ok (.aload_n 0, 1) := by decide +kernel
theorem dX3_make_6 : decode cX3_make 6 = .ok (.getfield 24, 3) := by decide +kernel
theorem dX3_make_9 : decode cX3_make 9 = .ok (.invokevirtual 119, 3) := by decide +kernel
theorem dX3_make_12 : decode cX3_make 12 = .ok (.istore_n 2, 1) := by decide +kernel
theorem dX3_make_13 : decode cX3_make 13 = .ok (.iload_n 2, 1) := by decide +kernel
theorem dX3_make_14 : decode cX3_make 14 = .ok (.iconst (-1), 1) := by decide +kernel
theorem dX3_make_15 : decode cX3_make 15 = .ok (.if_icmp .ne 13, 3) := by decide +kernel
theorem dX3_make_18 : decode cX3_make 18 = .ok (.new 122, 3) := by decide +kernel
theorem dX3_make_21 : decode cX3_make 21 = .ok (.dup, 1) := by decide +kernel
theorem dX3_make_22 : decode cX3_make 22 = .ok (.ldc 124, 2) := by decide +kernel
theorem dX3_make_24 : decode cX3_make 24 = .ok (.invokespecial 126, 3) := by decide +kernel
theorem dX3_make_27 : decode cX3_make 27 = .ok (.athrow, 1) := by decide +kernel
theorem dX3_make_28 : decode cX3_make 28 = .ok (.aload_n 0, 1) := by decide +kernel
theorem dX3_make_29 : decode cX3_make 29 = .ok (.getfield 24, 3) := by decide +kernel
theorem dX3_make_32 : decode cX3_make 32 = .ok (.getfield 96, 3) := by decide +kernel
theorem dX3_make_35 : decode cX3_make 35 = .ok (.iload_n 1, 1) := by decide +kernel
theorem dX3_make_36 : decode cX3_make 36 = .ok (.iload_n 2, 1) := by decide +kernel
theorem dX3_make_37 : decode cX3_make 37 = .ok (.iastore, 1) := by decide +kernel
theorem dX3_make_38 : decode cX3_make 38 = .ok (.aload_n 0, 1) := by decide +kernel
theorem dX3_make_39 : decode cX3_make 39 = .ok (.getfield 24, 3) := by decide +kernel
theorem dX3_make_42 : decode cX3_make 42 = .ok (.iload_n 2, 1) := by decide +kernel
theorem dX3_make_43 : decode cX3_make 43 = .ok (.iconst 0, 1) := by decide +kernel
theorem dX3_make_44 : decode cX3_make 44 = .ok (.invokevirtual 102, 3) := by decide +kernel
theorem dX3_make_47 : decode cX3_make 47 = .ok (.return_, 1) := by decide +kernel
theorem dX3_drop_0 : decode cX3_drop 0 = .ok (.aload_n 0, 1) := by decide +kernel
theorem dX3_drop_1 : decode cX3_drop 1 = .ok (.iload_n 1, 1) := by decide +kernel
theorem dX3_drop_2 : decode cX3_drop 2 = .ok (.invokevirtual 90, 3) := by decide +kernel
theorem dX3_drop_5 : decode cX3_drop 5 = .ok (.aload_n 0, 1) := by decide +kernel
theorem dX3_drop_6 : decode cX3_drop 6 = .ok (.aload_n 0, 1) := by decide +kernel
theorem dX3_drop_7 : decode cX3_drop 7 = .ok (.getfield 24, 3) := by decide +kernel
theorem dX3_drop_10 : decode cX3_drop 10 = .ok (.getfield 96, 3) := by decide +kernel
theorem dX3_drop_13 : decode cX3_drop 13 = .ok (.iload_n 1, 1) := by decide +kernel
theorem dX3_drop_14 : decode cX3_drop 14 = .ok (.iaload, 1) := by decide +kernel
theorem dX3_drop_15 : decode cX3_drop 15 = .ok (.invokevirtual 113, 3) := by decide +kernel
theorem dX3_drop_18 : decode cX3_drop 18 = .ok (.aload_n 0, 1) := by decide +kernel
theorem dX3_drop_19 : decode cX3_drop 19 = .ok (.getfield 24, 3) := by decide +kernel
theorem dX3_drop_22 : decode cX3_drop 22 = .ok (.aload_n 0, 1) := by decide +kernel
theorem dX3_drop_23 : decode cX3_drop 23 = .ok (.getfield 24, 3) := by decide +kernel
theorem dX3_drop_26 : decode cX3_drop 26 = .ok (.getfield 96, 3) := by decide +kernel
theorem dX3_drop_29 : decode cX3_drop 29 = .ok (.iload_n 1, 1) := by decide +kernel
theorem dX3_drop_30 : decode cX3_drop 30 = .ok (.iaload, 1) := by decide +kernel
theorem dX3_drop_31 : decode cX3_drop 31 = .ok (.invokevirtual 127, 3) := by decide +kernel
theorem dX3_drop_34 : decode cX3_drop 34 = .ok (.return_, 1) := by decide +kernel
theorem dX3_value_0 : decode cX3_value 0 = .ok (.aload_n 0, 1) := by decide +kernel
theorem dX3_value_1 : decode cX3_value 1 = .ok (.iload_n 1, 1) := by decide +kernel
theorem dX3_value_2 : decode cX3_value 2 = .ok (.invokevirtual 39, 3) := by decide +kernel
theorem dX3_value_5 : decode cX3_value 5 = .ok (.aload_n 0, 1) := by decide +kernel
theorem dX3_value_6 : decode cX3_value 6 = .ok (.getfield 24, 3) := by decide +kernel
theorem dX3_value_9 : decode cX3_value 9 = .ok (.getfield 96, 3) := by decide +kernel
theorem dX3_value_12 : decode cX3_value 12 = .ok (.iload_n 1, 1) := by decide +kernel
theorem dX3_value_13 : decode cX3_value 13 = .ok (.iaload, 1) := by decide +kernel
theorem dX3_value_14 : decode cX3_value 14 = .ok (.ireturn, 1) := by decide +kernel

/-! decoded instructions -/
theorem dX4_init_0 : decode cX4_init 0 = .ok (.aload_n 0, 1) := by decide +kernel
theorem dX4_init_1 : decode cX4_init 1 = .ok (.invokespecial 1, 3) := by decide +kernel
theorem dX4_init_4 : decode cX4_init 4 = .ok (.aload_n 0, 1) := by decide +kernel
theorem dX4_init_5 : decode cX4_init 5 = .ok (.bipush 72, 2) := by decide +kernel
theorem dX4_init_7 : decode cX4_init 7 = .ok (.newarray .boolean, 2) := by decide +kernel
theorem dX4_init_9 : decode cX4_init 9 = .ok (.putfield 7, 3) := by decide +kernel
theorem dX4_init_12 : decode cX4_init 12 = .ok (.aload_n 0, 1) := by decide +kernel
theorem dX4_init_13 : decode cX4_init 13 = .ok (.bipush 72, 2) := by decide +kernel
theorem dX4_init_15 : decode cX4_init 15 = .ok (.newarray .boolean, 2) := by decide +kernel
theorem dX4_init_17 : decode cX4_init 17 = .ok (.putfield 13, 3) := by decide +kernel
theorem dX4_init_20 : decode cX4_init 20 = .ok (.aload_n 0, 1) := by decide +kernel
theorem dX4_init_21 : decode cX4_init 21 = .ok (.iconst 2, 1) := by decide +kernel
theorem dX4_init_22 : decode cX4_init 22 = .ok (.newarray .int, 2) := by decide +kernel
theorem dX4_init_24 : decode cX4_init 24 = .ok (.putfield 16, 3) := by decide +kernel
theorem dX4_init_27 : decode cX4_init 27 = .ok (.aload_n 0, 1) := by decide +kernel
theorem dX4_init_28 : decode cX4_init 28 = .ok (.bipush 10, 2) := by decide +kernel
theorem dX4_init_30 : decode cX4_init 30 = .ok (.newarray .int, 2) := by decide +kernel
theorem dX4_init_32 : decode cX4_init 32 = .ok (.putfield 20, 3) := by decide +kernel
theorem dX4_init_35 : decode cX4_init 35 = .ok (.aload_n 0, 1) := by decide +kernel
theorem dX4_init_36 : decode cX4_init 36 = .ok (.bipush 10, 2) := by decide +kernel
theorem dX4_init_38 : decode cX4_init 38 = .ok (.newarray .int, 2) := by decide +kernel
theorem dX4_init_40 : decode cX4_init 40 = .ok (.putfield 23, 3) := by decide +kernel
theorem dX4_init_43 : decode cX4_init 43 = .ok (.aload_n 0, 1) := by decide +kernel
theorem dX4_init_44 : decode cX4_init 44 = .ok (.bipush 10, 2) := by decide +kernel
theorem dX4_init_46 : decode cX4_init 46 = .ok (.newarray .boolean, 2) := by decide +kernel
theorem dX4_init_48 : decode cX4_init 48 = .ok (.putfield 26, 3) := by decide +kernel
theorem dX4_init_51 : decode cX4_init 51 = .ok (.aload_n 0, 1) := by decide +kernel
theorem dX4_init_52 : decode cX4_init 52 = .ok (.bipush 6, 2) := by decide +kernel
theorem dX4_init_54 : decode cX4_init 54 = .ok (.newarray .int, 2) := by decide +kernel
theorem dX4_init_56 : decode cX4_init 56 = .ok (.putfield 29, 3) := by decide +kernel
theorem dX4_init_59 : decode cX4_init 59 = .ok (.aload_n 0, 1) := by decide +kernel
theorem dX4_init_60 : decode cX4_init 60 = .ok (.bipush 6, 2) := by decide +kernel
theorem dX4_init_62 : decode cX4_init 62 = .ok (.newarray .boolean, 2) := by decide +kernel
theorem dX4_init_64 : decode cX4_init 64 = .ok (.putfield 32, 3) := by decide +kernel
theorem dX4_init_67 : decode cX4_init 67 = .ok (.aload_n 0, 1) := by decide +kernel
theorem dX4_init_68 : decode cX4_init 68 = .ok (.bipush 6, 2) := by decide +kernel
theorem dX4_init_70 : decode cX4_init 70 = .ok (.newarray .int, 2) := by decide +kernel
theorem dX4_init_72 : decode cX4_init 72 = .ok (.putfield 35, 3) := by decide +kernel
theorem dX4_init_75 : decode cX4_init 75 = .ok (.aload_n 0, 1) := by decide +kernel
theorem dX4_init_76 : decode cX4_init 76 = .ok (.bipush 6, 2) := by decide +kernel
theorem dX4_init_78 : decode cX4_init 78 = .ok (.newarray .boolean, 2) := by decide +kernel
theorem dX4_init_80 : decode cX4_init 80 = .ok (.putfield 38, 3) := by decide +kernel
theorem dX4_init_83 : decode cX4_init 83 = .ok (.aload_n 0, 1) := by decide +kernel
theorem dX4_init_84 : decode cX4_init 84 = .ok (.bipush 6, 2) := by decide +kernel
theorem dX4_init_86 : decode cX4_init 86 = .ok (.newarray .boolean, 2) := by decide +kernel
theorem dX4_init_88 : decode cX4_init 88 = .ok (.putfield 41, 3) := by decide +kernel
theorem dX4_init_91 : decode cX4_init 91 = .ok (.aload_n 0, 1) := by decide +kernel
theorem dX4_init_92 : decode cX4_init 92 = .ok (.bipush 12, 2) := by decide +kernel
theorem dX4_init_94 : decode cX4_init 94 = .ok (.newarray .int, 2) := by decide +kernel
theorem dX4_init_96 : decode cX4_init 96 = .ok (.putfield 44, 3) := by decide +kernel
theorem dX4_init_99 : decode cX4_init 99 = .ok (.aload_n 0, 1) := by decide +kernel
theorem dX4_init_100 : decode cX4_init 100 = .ok (.bipush 12, 2) := by decide +kernel
theorem dX4_init_102 : decode cX4_init 102 = .ok (.newarray .int, 2) := by decide +kernel
theorem dX4_init_104 : decode cX4_init 104 = .ok (.putfield 47, 3) := by decide +kernel
theorem dX4_init_107 : decode cX4_init 107 = .ok (.aload_n 0, 1) := by decide +kernel
theorem dX4_init_108 : decode cX4_init 108 = .ok (.bipush 12, 2) := by decide +kernel
theorem dX4_init_110 : decode cX4_init 110 = .ok (.newarray .int, 2) := by decide +kernel
theorem dX4_init_112 : decode cX4_init 112 = .ok (.putfield 50, 3) := by decide +kernel
theorem dX4_init_115 : decode cX4_init 115 = .ok (.aload_n 0, 1) := by decide +kernel
theorem dX4_init_116 : decode cX4_init 116 = .ok (.iconst 5, 1) := by decide +kernel
theorem dX4_init_117 : decode cX4_init 117 = .ok (.newarray .int, 2) := by decide +kernel
theorem dX4_init_119 : decode cX4_init 119 = .ok (.putfield 53, 3) := by decide +kernel
theorem dX4_init_122 : decode cX4_init 122 = .ok (.aload_n 0, 1) := by decide +kernel
theorem dX4_init_123 : decode cX4_init 123 = .ok (.bipush 10, 2) := by decide +kernel
theorem dX4_init_125 : decode cX4_init 125 = .ok (.newarray .int, 2) := by decide +kernel
theorem dX4_init_127 : decode cX4_init 127 = .ok (.putfield 56, 3) := by decide +kernel
theorem dX4_init_130 : decode cX4_init 130 = .ok (.aload_n 0, 1) := by decide +kernel
theorem dX4_init_131 : decode cX4_init 131 = .ok (.bipush 10, 2) := by decide +kernel
theorem dX4_init_133 : decode cX4_init 133 = .ok (.newarray .boolean, 2) := by decide +kernel
theorem dX4_init_135 : decode cX4_init 135 = .ok (.putfield 59, 3) := by decide +kernel
theorem dX4_init_138 : decode cX4_init 138 = .ok (.iconst 0, 1) := by decide +kernel
theorem dX4_init_139 : decode cX4_init 139 = .ok (.istore_n 1, 1) := by decide +kernel
theorem dX4_init_140 : decode cX4_init 140 = .ok (.iload_n 1, 1) := by decide +kernel
theorem dX4_init_141 : decode cX4_init 141 = .ok (.bipush 10, 2) := by decide +kernel
theorem dX4_init_143 : decode cX4_init 143 = .ok (.if_icmp .ge 16, 3) := by decide +kernel
theorem dX4_init_146 : decode cX4_init 146 = .ok (.aload_n 0, 1) := by decide +kernel
theorem dX4_init_147 : decode cX4_init 147 = .ok (.getfield 56, 3) := by decide +kernel
theorem dX4_init_150 : decode cX4_init 150 = .ok (.iload_n 1, 1) := by decide +kernel
theorem dX4_init_151 : decode cX4_init 151 = .ok (.iconst (-1), 1) := by decide +kernel
theorem dX4_init_152 : decode cX4_init 152 = .ok (.iastore, 1) := by decide +kernel
theorem dX4_init_153 : decode cX4_init 153 = .ok (.iinc 1 1, 3) := by decide +kernel
theorem dX4_init_156 : decode cX4_init 156 = .ok (.goto (-16), 3) := by decide +kernel
theorem dX4_init_159 : decode cX4_init 159 = .ok (.return_, 1) := by decide +kernel
theorem dX4_thrown_0 : decode cX4_thrown 0 = .ok (.aload_n 0, 1) := by decide +kernel
theorem dX4_thrown_1 : decode cX4_thrown 1 = .ok (.getfield 62, 3) := by decide +kernel
theorem dX4_thrown_4 : decode cX4_thrown 4 = .ok (.ireturn, 1) := by decide +kernel
theorem dX4_pair_0 : decode cX4_pair 0 = .ok (.aload_n 0, 1) := by decide +kernel
theorem dX4_pair_1 : decode cX4_pair 1 = .ok (.iload_n 1, 1) := by decide +kernel
theorem dX4_pair_2 : decode cX4_pair 2 = .ok (.invokestatic 66, 3) := by decide +kernel
theorem dX4_pair_5 : decode cX4_pair 5 = .ok (.ifCond .ne 17, 3) := by decide +kernel
theorem dX4_pair_8 : decode cX4_pair 8 = .ok (.iload_n 2, 1) := by decide +kernel
theorem dX4_pair_9 : decode cX4_pair 9 = .ok (.invokestatic 70, 3) := by decide +kernel
theorem dX4_pair_12 : decode cX4_pair 12 = .ok (.ifCond .ne 10, 3) := by decide +kernel
theorem dX4_pair_15 : decode cX4_pair 15 = .ok (.iload_n 3, 1) := by decide +kernel
theorem dX4_pair_16 : decode cX4_pair 16 = .ok (.invokestatic 70, 3) := by decide +kernel
theorem dX4_pair_19 : decode cX4_pair 19 = .ok (.ifCond .eq 7, 3) := by decide +kernel
theorem dX4_pair_22 : decode cX4_pair 22 = .ok (.iconst 1, 1) := by decide +kernel
theorem dX4_pair_23 : decode cX4_pair 23 = .ok (.goto 4, 3) := by decide +kernel
theorem dX4_pair_26 : decode cX4_pair 26 = .ok (.iconst 0, 1) := by decide +kernel
theorem dX4_pair_27 : decode cX4_pair 27 = .ok (.putfield 62, 3) := by decide +kernel
theorem dX4_pair_30 : decode cX4_pair 30 = .ok (.aload_n 0, 1) := by decide +kernel
theorem dX4_pair_31 : decode cX4_pair 31 = .ok (.getfield 62, 3) := by decide +kernel
theorem dX4_pair_34 : decode cX4_pair 34 = .ok (.ifCond .le 4, 3) := by decide +kernel
theorem dX4_pair_37 : decode cX4_pair 37 = .ok (.return_, 1) := by decide +kernel
theorem dX4_pair_38 : decode cX4_pair 38 = .ok (.bipush 36, 2) := by decide +kernel
theorem dX4_pair_40 : decode cX4_pair 40 = .ok (.iload_n 1, 1) := by decide +kernel
theorem dX4_pair_41 : decode cX4_pair 41 = .ok (.imul, 1) := by decide +kernel
theorem dX4_pair_42 : decode cX4_pair 42 = .ok (.bipush 6, 2) := by decide +kernel
theorem dX4_pair_44 : decode cX4_pair 44 = .ok (.iload_n 2, 1) := by decide +kernel
theorem dX4_pair_45 : decode cX4_pair 45 = .ok (.imul, 1) := by decide +kernel
theorem dX4_pair_46 : decode cX4_pair 46 = .ok (.iadd, 1) := by decide +kernel
theorem dX4_pair_47 : decode cX4_pair 47 = .ok (.iload_n 3, 1) := by decide +kernel
theorem dX4_pair_48 : decode cX4_pair 48 = .ok (.iadd, 1) := by decide +kernel
theorem dX4_pair_49 : decode cX4_pair 49 = .ok (.istore 5, 2) := by decide +kernel
theorem dX4_pair_51 : decode cX4_pair 51 = .ok (.iload 4, 2) := by decide +kernel
theorem dX4_pair_53 : decode cX4_pair 53 = .ok (.ifCond .eq 14, 3) := by decide +kernel
theorem dX4_pair_56 : decode cX4_pair 56 = .ok (.aload_n 0, 1) := by decide +kernel
theorem dX4_pair_57 : decode cX4_pair 57 = .ok (.getfield 13, 3) := by decide +kernel
theorem dX4_pair_60 : decode cX4_pair 60 = .ok (.iload 5, 2) := by decide +kernel
theorem dX4_pair_62 : decode cX4_pair 62 = .ok (.iconst 1, 1) := by decide +kernel
theorem dX4_pair_63 : decode cX4_pair 63 = .ok (.bastore, 1) := by decide +kernel
theorem dX4_pair_64 : decode cX4_pair 64 = .ok (.goto 11, 3) := by decide +kernel
theorem dX4_pair_67 : decode cX4_pair 67 = .ok (.aload_n 0, 1) := by decide +kernel
theorem dX4_pair_68 : decode cX4_pair 68 = .ok (.getfield 7, 3) := by decide +kernel
theorem dX4_pair_71 : decode cX4_pair 71 = .ok (.iload 5, 2) := by decide +kernel
theorem dX4_pair_73 : decode cX4_pair 73 = .ok (.iconst 1, 1) := by decide +kernel
theorem dX4_pair_74 : decode cX4_pair 74 = .ok (.bastore, 1) := by decide +kernel
theorem dX4_pair_75 : decode cX4_pair 75 = .ok (.return_, 1) := by decide +kernel
theorem dX4_noClaim_0 : decode cX4_noClaim 0 = .ok (.iload_n 0, 1) := by decide +kernel
theorem dX4_noClaim_1 : decode cX4_noClaim 1 = .ok (.ifCond .lt 8, 3) := by decide +kernel
theorem dX4_noClaim_4 : decode cX4_noClaim 4 = .ok (.iload_n 0, 1) := by decide +kernel
theorem dX4_noClaim_5 : decode cX4_noClaim 5 = .ok (.iconst 1, 1) := by decide +kernel
theorem dX4_noClaim_6 : decode cX4_noClaim 6 = .ok (.if_icmp .le 7, 3) := by decide +kernel
theorem dX4_noClaim_9 : decode cX4_noClaim 9 = .ok (.iconst 1, 1) := by decide +kernel
theorem dX4_noClaim_10 : decode cX4_noClaim 10 = .ok (.goto 4, 3) := by decide +kernel
theorem dX4_noClaim_13 : decode cX4_noClaim 13 = .ok (.iconst 0, 1) := by decide +kernel
theorem dX4_noClaim_14 : decode cX4_noClaim 14 = .ok (.ireturn, 1) := by decide +kernel
theorem dX4_noTerm_0 : decode cX4_noTerm 0 = .ok (.iload_n 0, 1) := by decide +kernel
theorem dX4_noTerm_1 : decode cX4_noTerm 1 = .ok (.ifCond .lt 8, 3) := by decide +kernel
theorem dX4_noTerm_4 : decode cX4_noTerm 4 = .ok (.iload_n 0, 1) := by decide +kernel
theorem dX4_noTerm_5 : decode cX4_noTerm 5 = .ok (.iconst 5, 1) := by decide +kernel
theorem dX4_noTerm_6 : decode cX4_noTerm 6 = .ok (.if_icmp .le 7, 3) := by decide +kernel
theorem dX4_noTerm_9 : decode cX4_noTerm 9 = .ok (.iconst 1, 1) := by decide +kernel
theorem dX4_noTerm_10 : decode cX4_noTerm 10 = .ok (.goto 4, 3) := by decide +kernel
theorem dX4_noTerm_13 : decode cX4_noTerm 13 = .ok (.iconst 0, 1) := by decide +kernel
theorem dX4_noTerm_14 : decode cX4_noTerm 14 = .ok (.ireturn, 1) := by decide +kernel
theorem dX4_piece_0 : decode cX4_piece 0 = .ok (.aload_n 0, 1) := by decide +kernel
theorem dX4_piece_1 : decode cX4_piece 1 = .ok (.iload_n 1, 1) := by decide +kernel
theorem dX4_piece_2 : decode cX4_piece 2 = .ok (.invokestatic 66, 3) := by decide +kernel
theorem dX4_piece_5 : decode cX4_piece 5 = .ok (.ifCond .ne 17, 3) := by decide +kernel
theorem dX4_piece_8 : decode cX4_piece 8 = .ok (.iload_n 2, 1) := by decide +kernel
theorem dX4_piece_9 : decode cX4_piece 9 = .ok (.invokestatic 70, 3) := by decide +kernel
theorem dX4_piece_12 : decode cX4_piece 12 = .ok (.ifCond .ne 10, 3) := by decide +kernel
theorem dX4_piece_15 : decode cX4_piece 15 = .ok (.iload_n 3, 1) := by decide +kernel
theorem dX4_piece_16 : decode cX4_piece 16 = .ok (.invokestatic 70, 3) := by decide +kernel
theorem dX4_piece_19 : decode cX4_piece 19 = .ok (.ifCond .eq 7, 3) := by decide +kernel
theorem dX4_piece_22 : decode cX4_piece 22 = .ok (.iconst 1, 1) := by decide +kernel
theorem dX4_piece_23 : decode cX4_piece 23 = .ok (.goto 18, 3) := by decide +kernel
theorem dX4_piece_26 : decode cX4_piece 26 = .ok (.aload_n 0, 1) := by decide +kernel
theorem dX4_piece_27 : decode cX4_piece 27 = .ok (.getfield 16, 3) := by decide +kernel
theorem dX4_piece_30 : decode cX4_piece 30 = .ok (.iload_n 1, 1) := by decide +kernel
theorem dX4_piece_31 : decode cX4_piece 31 = .ok (.iaload, 1) := by decide +kernel
theorem dX4_piece_32 : decode cX4_piece 32 = .ok (.iconst 5, 1) := by decide +kernel
theorem dX4_piece_33 : decode cX4_piece 33 = .ok (.if_icmp .ne 7, 3) := by decide +kernel
theorem dX4_piece_36 : decode cX4_piece 36 = .ok (.iconst 2, 1) := by decide +kernel
theorem dX4_piece_37 : decode cX4_piece 37 = .ok (.goto 4, 3) := by decide +kernel
theorem dX4_piece_40 : decode cX4_piece 40 = .ok (.iconst 0, 1) := by decide +kernel
theorem dX4_piece_41 : decode cX4_piece 41 = .ok (.putfield 62, 3) := by decide +kernel
theorem dX4_piece_44 : decode cX4_piece 44 = .ok (.aload_n 0, 1) := by decide +kernel
theorem dX4_piece_45 : decode cX4_piece 45 = .ok (.getfield 62, 3) := by decide +kernel
theorem dX4_piece_48 : decode cX4_piece 48 = .ok (.ifCond .le 5, 3) := by decide +kernel
theorem dX4_piece_51 : decode cX4_piece 51 = .ok (.iconst 0, 1) := by decide +kernel
theorem dX4_piece_52 : decode cX4_piece 52 = .ok (.ireturn, 1) := by decide +kernel
theorem dX4_piece_53 : decode cX4_piece 53 = .ok (.iconst 5, 1) := by decide +kernel
theorem dX4_piece_54 : decode cX4_piece 54 = .ok (.iload_n 1, 1) := by decide +kernel
theorem dX4_piece_55 : decode cX4_piece 55 = .ok (.imul, 1) := by decide +kernel
theorem dX4_piece_56 : decode cX4_piece 56 = .ok (.aload_n 0, 1) := by decide +kernel
theorem dX4_piece_57 : decode cX4_piece 57 = .ok (.getfield 16, 3) := by decide +kernel
theorem dX4_piece_60 : decode cX4_piece 60 = .ok (.iload_n 1, 1) := by decide +kernel
theorem dX4_piece_61 : decode cX4_piece 61 = .ok (.iaload, 1) := by decide +kernel
theorem dX4_piece_62 : decode cX4_piece 62 = .ok (.iadd, 1) := by decide +kernel
theorem dX4_piece_63 : decode cX4_piece 63 = .ok (.istore 5, 2) := by decide +kernel
theorem dX4_piece_65 : decode cX4_piece 65 = .ok (.aload_n 0, 1) := by decide +kernel
theorem dX4_piece_66 : decode cX4_piece 66 = .ok (.getfield 20, 3) := by decide +kernel
theorem dX4_piece_69 : decode cX4_piece 69 = .ok (.iload 5, 2) := by decide +kernel
theorem dX4_piece_71 : decode cX4_piece 71 = .ok (.iload_n 2, 1) := by decide +kernel
theorem dX4_piece_72 : decode cX4_piece 72 = .ok (.iastore, 1) := by decide +kernel
theorem dX4_piece_73 : decode cX4_piece 73 = .ok (.aload_n 0, 1) := by decide +kernel
theorem dX4_piece_74 : decode cX4_piece 74 = .ok (.getfield 23, 3) := by decide +kernel
theorem dX4_piece_77 : decode cX4_piece 77 = .ok (.iload 5, 2) := by decide +kernel
theorem dX4_piece_79 : decode cX4_piece 79 = .ok (.iload_n 3, 1) := by decide +kernel
theorem dX4_piece_80 : decode cX4_piece 80 = .ok (.iastore, 1) := by decide +kernel
theorem dX4_piece_81 : decode cX4_piece 81 = .ok (.aload_n 0, 1) := by decide +kernel
theorem dX4_piece_82 : decode cX4_piece 82 = .ok (.getfield 26, 3) := by decide +kernel
theorem dX4_piece_85 : decode cX4_piece 85 = .ok (.iload 5, 2) := by decide +kernel
theorem dX4_piece_87 : decode cX4_piece 87 = .ok (.iload 4, 2) := by decide +kernel
theorem dX4_piece_89 : decode cX4_piece 89 = .ok (.bastore, 1) := by decide +kernel
theorem dX4_piece_90 : decode cX4_piece 90 = .ok (.aload_n 0, 1) := by decide +kernel
theorem dX4_piece_91 : decode cX4_piece 91 = .ok (.getfield 16, 3) := by decide +kernel
theorem dX4_piece_94 : decode cX4_piece 94 = .ok (.iload_n 1, 1) := by decide +kernel
theorem dX4_piece_95 : decode cX4_piece 95 = .ok (.dup2, 1) := by decide +kernel
theorem dX4_piece_96 : decode cX4_piece 96 = .ok (.iaload, 1) := by decide +kernel
theorem dX4_piece_97 : decode cX4_piece 97 = .ok (.iconst 1, 1) := by decide +kernel
theorem dX4_piece_98 : decode cX4_piece 98 = .ok (.iadd, 1) := by decide +kernel
theorem dX4_piece_99 : decode cX4_piece 99 = .ok (.iastore, 1) := by decide +kernel
theorem dX4_piece_100 : decode cX4_piece 100 = .ok (.aload_n 0, 1) := by decide +kernel
theorem dX4_piece_101 : decode cX4_piece 101 = .ok (.getfield 16, 3) := by decide +kernel
theorem dX4_piece_104 : decode cX4_piece 104 = .ok (.iload_n 1, 1) := by decide +kernel
theorem dX4_piece_105 : decode cX4_piece 105 = .ok (.iaload, 1) := by decide +kernel
theorem dX4_piece_106 : decode cX4_piece 106 = .ok (.iconst 1, 1) := by decide +kernel
theorem dX4_piece_107 : decode cX4_piece 107 = .ok (.isub, 1) := by decide +kernel
theorem dX4_piece_108 : decode cX4_piece 108 = .ok (.ireturn, 1) := by decide +kernel
theorem dX4_clear_0 : decode cX4_clear 0 = .ok (.aload_n 0, 1) := by decide +kernel
theorem dX4_clear_1 : decode cX4_clear 1 = .ok (.iload_n 1, 1) := by decide +kernel
theorem dX4_clear_2 : decode cX4_clear 2 = .ok (.invokestatic 66, 3) := by decide +kernel
theorem dX4_clear_5 : decode cX4_clear 5 = .ok (.ifCond .eq 7, 3) := by decide +kernel
theorem dX4_clear_8 : decode cX4_clear 8 = .ok (.iconst 1, 1) := by decide +kernel
theorem dX4_clear_9 : decode cX4_clear 9 = .ok (.goto 4, 3) := by decide +kernel
theorem dX4_clear_12 : decode cX4_clear 12 = .ok (.iconst 0, 1) := by decide +kernel
theorem dX4_clear_13 : decode cX4_clear 13 = .ok (.putfield 62, 3) := by decide +kernel
theorem dX4_clear_16 : decode cX4_clear 16 = .ok (.aload_n 0, 1) := by decide +kernel
theorem dX4_clear_17 : decode cX4_clear 17 = .ok (.getfield 62, 3) := by decide +kernel
theorem dX4_clear_20 : decode cX4_clear 20 = .ok (.ifCond .le 4, 3) := by decide +kernel
theorem dX4_clear_23 : decode cX4_clear 23 = .ok (.return_, 1) := by decide +kernel
theorem dX4_clear_24 : decode cX4_clear 24 = .ok (.aload_n 0, 1) := by decide +kernel
theorem dX4_clear_25 : decode cX4_clear 25 = .ok (.getfield 16, 3) := by decide +kernel
theorem dX4_clear_28 : decode cX4_clear 28 = .ok (.iload_n 1, 1) := by decide +kernel
theorem dX4_clear_29 : decode cX4_clear 29 = .ok (.iconst 0, 1) := by decide +kernel
theorem dX4_clear_30 : decode cX4_clear 30 = .ok (.iastore, 1) := by decide +kernel
theorem dX4_clear_31 : decode cX4_clear 31 = .ok (.bipush 36, 2) := by decide +kernel
theorem dX4_clear_33 : decode cX4_clear 33 = .ok (.iload_n 1, 1) := by decide +kernel
theorem dX4_clear_34 : decode cX4_clear 34 = .ok (.imul, 1) := by decide +kernel
theorem dX4_clear_35 : decode cX4_clear 35 = .ok (.istore_n 2, 1) := by decide +kernel
theorem dX4_clear_36 : decode cX4_clear 36 = .ok (.iload_n 2, 1) := by decide +kernel
theorem dX4_clear_37 : decode cX4_clear 37 = .ok (.bipush 36, 2) := by decide +kernel
theorem dX4_clear_39 : decode cX4_clear 39 = .ok (.iload_n 1, 1) := by decide +kernel
theorem dX4_clear_40 : decode cX4_clear 40 = .ok (.imul, 1) := by decide +kernel
theorem dX4_clear_41 : decode cX4_clear 41 = .ok (.bipush 36, 2) := by decide +kernel
theorem dX4_clear_43 : decode cX4_clear 43 = .ok (.iadd, 1) := by decide +kernel
theorem dX4_clear_44 : decode cX4_clear 44 = .ok (.if_icmp .ge 23, 3) := by decide +kernel
theorem dX4_clear_47 : decode cX4_clear 47 = .ok (.aload_n 0, 1) := by decide +kernel
theorem dX4_clear_48 : decode cX4_clear 48 = .ok (.getfield 7, 3) := by decide +kernel
theorem dX4_clear_51 : decode cX4_clear 51 = .ok (.iload_n 2, 1) := by decide +kernel
theorem dX4_clear_52 : decode cX4_clear 52 = .ok (.iconst 0, 1) := by decide +kernel
theorem dX4_clear_53 : decode cX4_clear 53 = .ok (.bastore, 1) := by decide +kernel
theorem dX4_clear_54 : decode cX4_clear 54 = .ok (.aload_n 0, 1) := by decide +kernel
theorem dX4_clear_55 : decode cX4_clear 55 = .ok (.getfield 13, 3) := by decide +kernel
theorem dX4_clear_58 : decode cX4_clear 58 = .ok (.iload_n 2, 1) := by decide +kernel
theorem dX4_clear_59 : decode cX4_clear 59 = .ok (.iconst 0, 1) := by decide +kernel
theorem dX4_clear_60 : decode cX4_clear 60 = .ok (.bastore, 1) := by decide +kernel
theorem dX4_clear_61 : decode cX4_clear 61 = .ok (.iinc 2 1, 3) := by decide +kernel
theorem dX4_clear_64 : decode cX4_clear 64 = .ok (.goto (-28), 3) := by decide +kernel
theorem dX4_clear_67 : decode cX4_clear 67 = .ok (.return_, 1) := by decide +kernel
theorem dX4_swap_0 : decode cX4_swap 0 = .ok (.aload_n 0, 1) := by decide +kernel
theorem dX4_swap_1 : decode cX4_swap 1 = .ok (.iconst 0, 1) := by decide +kernel
theorem dX4_swap_2 : decode cX4_swap 2 = .ok (.putfield 62, 3) := by decide +kernel
theorem dX4_swap_5 : decode cX4_swap 5 = .ok (.iconst 0, 1) := by decide +kernel
theorem dX4_swap_6 : decode cX4_swap 6 = .ok (.istore_n 1, 1) := by decide +kernel
theorem dX4_swap_7 : decode cX4_swap 7 = .ok (.iload_n 1, 1) := by decide +kernel
theorem dX4_swap_8 : decode cX4_swap 8 = .ok (.bipush 36, 2) := by decide +kernel
theorem dX4_swap_10 : decode cX4_swap 10 = .ok (.if_icmp .ge 73, 3) := by decide +kernel
theorem dX4_swap_13 : decode cX4_swap 13 = .ok (.aload_n 0, 1) := by decide +kernel
theorem dX4_swap_14 : decode cX4_swap 14 = .ok (.getfield 7, 3) := by decide +kernel
theorem dX4_swap_17 : decode cX4_swap 17 = .ok (.iload_n 1, 1) := by decide +kernel
theorem dX4_swap_18 : decode cX4_swap 18 = .ok (.baload, 1) := by decide +kernel
theorem dX4_swap_19 : decode cX4_swap 19 = .ok (.istore_n 2, 1) := by decide +kernel
theorem dX4_swap_20 : decode cX4_swap 20 = .ok (.aload_n 0, 1) := by decide +kernel
theorem dX4_swap_21 : decode cX4_swap 21 = .ok (.getfield 13, 3) := by decide +kernel
theorem dX4_swap_24 : decode cX4_swap 24 = .ok (.iload_n 1, 1) := by decide +kernel
theorem dX4_swap_25 : decode cX4_swap 25 = .ok (.baload, 1) := by decide +kernel
theorem dX4_swap_26 : decode cX4_swap 26 = .ok (.istore_n 3, 1) := by decide +kernel
theorem dX4_swap_27 : decode cX4_swap 27 = .ok (.aload_n 0, 1) := by decide +kernel
theorem dX4_swap_28 : decode cX4_swap 28 = .ok (.getfield 7, 3) := by decide +kernel
theorem dX4_swap_31 : decode cX4_swap 31 = .ok (.iload_n 1, 1) := by decide +kernel
theorem dX4_swap_32 : decode cX4_swap 32 = .ok (.aload_n 0, 1) := by decide +kernel
theorem dX4_swap_33 : decode cX4_swap 33 = .ok (.getfield 7, 3) := by decide +kernel
theorem dX4_swap_36 : decode cX4_swap 36 = .ok (.bipush 36, 2) := by decide +kernel
theorem dX4_swap_38 : decode cX4_swap 38 = .ok (.iload_n 1, 1) := by decide +kernel
theorem dX4_swap_39 : decode cX4_swap 39 = .ok (.iadd, 1) := by decide +kernel
theorem dX4_swap_40 : decode cX4_swap 40 = .ok (.baload, 1) := by decide +kernel
theorem dX4_swap_41 : decode cX4_swap 41 = .ok (.bastore, 1) := by decide +kernel
theorem dX4_swap_42 : decode cX4_swap 42 = .ok (.aload_n 0, 1) := by decide +kernel
theorem dX4_swap_43 : decode cX4_swap 43 = .ok (.getfield 13, 3) := by decide +kernel
theorem dX4_swap_46 : decode cX4_swap 46 = .ok (.iload_n 1, 1) := by decide +kernel
theorem dX4_swap_47 : decode cX4_swap 47 = .ok (.aload_n 0, 1) := by decide +kernel
theorem dX4_swap_48 : decode cX4_swap 48 = .ok (.getfield 13, 3) := by decide +kernel
theorem dX4_swap_51 : decode cX4_swap 51 = .ok (.bipush 36, 2) := by decide +kernel
theorem dX4_swap_53 : decode cX4_swap 53 = .ok (.iload_n 1, 1) := by decide +kernel
theorem dX4_swap_54 : decode cX4_swap 54 = .ok (.iadd, 1) := by decide +kernel
theorem dX4_swap_55 : decode cX4_swap 55 = .ok (.baload, 1) := by decide +kernel
theorem dX4_swap_56 : decode cX4_swap 56 = .ok (.bastore, 1) := by decide +kernel
theorem dX4_swap_57 : decode cX4_swap 57 = .ok (.aload_n 0, 1) := by decide +kernel
theorem dX4_swap_58 : decode cX4_swap 58 = .ok (.getfield 7, 3) := by decide +kernel
theorem dX4_swap_61 : decode cX4_swap 61 = .ok (.bipush 36, 2) := by decide +kernel
theorem dX4_swap_63 : decode cX4_swap 63 = .ok (.iload_n 1, 1) := by decide +kernel
theorem dX4_swap_64 : decode cX4_swap 64 = .ok (.iadd, 1) := by decide +kernel
theorem dX4_swap_65 : decode cX4_swap 65 = .ok (.iload_n 2, 1) := by decide +kernel
theorem dX4_swap_66 : decode cX4_swap 66 = .ok (.bastore, 1) := by decide +kernel
theorem dX4_swap_67 : decode cX4_swap 67 = .ok (.aload_n 0, 1) := by decide +kernel
theorem dX4_swap_68 : decode cX4_swap 68 = .ok (.getfield 13, 3) := by decide +kernel
theorem dX4_swap_71 : decode cX4_swap 71 = .ok (.bipush 36, 2) := by decide +kernel
theorem dX4_swap_73 : decode cX4_swap 73 = .ok (.iload_n 1, 1) := by decide +kernel
theorem dX4_swap_74 : decode cX4_swap 74 = .ok (.iadd, 1) := by decide +kernel
theorem dX4_swap_75 : decode cX4_swap 75 = .ok (.iload_n 3, 1) := by decide +kernel
theorem dX4_swap_76 : decode cX4_swap 76 = .ok (.bastore, 1) := by decide +kernel
theorem dX4_swap_77 : decode cX4_swap 77 = .ok (.iinc 1 1, 3) := by decide +kernel
theorem dX4_swap_80 : decode cX4_swap 80 = .ok (.goto (-73), 3) := by decide +kernel
theorem dX4_swap_83 : decode cX4_swap 83 = .ok (.iconst 0, 1) := by decide +kernel
theorem dX4_swap_84 : decode cX4_swap 84 = .ok (.istore_n 1, 1) := by decide +kernel
theorem dX4_swap_85 : decode cX4_swap 85 = .ok (.iload_n 1, 1) := by decide +kernel
theorem dX4_swap_86 : decode cX4_swap 86 = .ok (.iconst 5, 1) := by decide +kernel
theorem dX4_swap_87 : decode cX4_swap 87 = .ok (.if_icmp .ge 101, 3) := by decide +kernel
theorem dX4_swap_90 : decode cX4_swap 90 = .ok (.aload_n 0, 1) := by decide +kernel
theorem dX4_swap_91 : decode cX4_swap 91 = .ok (.getfield 20, 3) := by decide +kernel
theorem dX4_swap_94 : decode cX4_swap 94 = .ok (.iload_n 1, 1) := by decide +kernel
theorem dX4_swap_95 : decode cX4_swap 95 = .ok (.iaload, 1) := by decide +kernel
theorem dX4_swap_96 : decode cX4_swap 96 = .ok (.istore_n 2, 1) := by decide +kernel
theorem dX4_swap_97 : decode cX4_swap 97 = .ok (.aload_n 0, 1) := by decide +kernel
theorem dX4_swap_98 : decode cX4_swap 98 = .ok (.getfield 23, 3) := by decide +kernel
theorem dX4_swap_101 : decode cX4_swap 101 = .ok (.iload_n 1, 1) := by decide +kernel
theorem dX4_swap_102 : decode cX4_swap 102 = .ok (.iaload, 1) := by decide +kernel
theorem dX4_swap_103 : decode cX4_swap 103 = .ok (.istore_n 3, 1) := by decide +kernel
theorem dX4_swap_104 : decode cX4_swap 104 = .ok (.aload_n 0, 1) := by decide +kernel
theorem dX4_swap_105 : decode cX4_swap 105 = .ok (.getfield 26, 3) := by decide +kernel
theorem dX4_swap_108 : decode cX4_swap 108 = .ok (.iload_n 1, 1) := by decide +kernel
theorem dX4_swap_109 : decode cX4_swap 109 = .ok (.baload, 1) := by decide +kernel
theorem dX4_swap_110 : decode cX4_swap 110 = .ok (.istore 4, 2) := by decide +kernel
theorem dX4_swap_112 : decode cX4_swap 112 = .ok (.aload_n 0, 1) := by decide +kernel
theorem dX4_swap_113 : decode cX4_swap 113 = .ok (.getfield 20, 3) := by decide +kernel
theorem dX4_swap_116 : decode cX4_swap 116 = .ok (.iload_n 1, 1) := by decide +kernel
theorem dX4_swap_117 : decode cX4_swap 117 = .ok (.aload_n 0, 1) := by decide +kernel
theorem dX4_swap_118 : decode cX4_swap 118 = .ok (.getfield 20, 3) := by decide +kernel
theorem dX4_swap_121 : decode cX4_swap 121 = .ok (.iconst 5, 1) := by decide +kernel
theorem dX4_swap_122 : decode cX4_swap 122 = .ok (.iload_n 1, 1) := by decide +kernel
theorem dX4_swap_123 : decode cX4_swap 123 = .ok (.iadd, 1) := by decide +kernel
theorem dX4_swap_124 : decode cX4_swap 124 = .ok (.iaload, 1) := by decide +kernel
theorem dX4_swap_125 : decode cX4_swap 125 = .ok (.iastore, 1) := by decide +kernel
theorem dX4_swap_126 : decode cX4_swap 126 = .ok (.aload_n 0, 1) := by decide +kernel
theorem dX4_swap_127 : decode cX4_swap 127 = .ok (.getfield 23, 3) := by decide +kernel
theorem dX4_swap_130 : decode cX4_swap 130 = .ok (.iload_n 1, 1) := by decide +kernel
theorem dX4_swap_131 : decode cX4_swap 131 = .ok (.aload_n 0, 1) := by decide +kernel
theorem dX4_swap_132 : decode cX4_swap 132 = .ok (.getfield 23, 3) := by decide +kernel
theorem dX4_swap_135 : decode cX4_swap 135 = .ok (.iconst 5, 1) := by decide +kernel
theorem dX4_swap_136 : decode cX4_swap 136 = .ok (.iload_n 1, 1) := by decide +kernel
theorem dX4_swap_137 : decode cX4_swap 137 = .ok (.iadd, 1) := by decide +kernel
theorem dX4_swap_138 : decode cX4_swap 138 = .ok (.iaload, 1) := by decide +kernel
theorem dX4_swap_139 : decode cX4_swap 139 = .ok (.iastore, 1) := by decide +kernel
theorem dX4_swap_140 : decode cX4_swap 140 = .ok (.aload_n 0, 1) := by decide +kernel
theorem dX4_swap_141 : decode cX4_swap 141 = .ok (.getfield 26, 3) := by decide +kernel
theorem dX4_swap_144 : decode cX4_swap 144 = .ok (.iload_n 1, 1) := by decide +kernel
theorem dX4_swap_145 : decode cX4_swap 145 = .ok (.aload_n 0, 1) := by decide +kernel
theorem dX4_swap_146 : decode cX4_swap 146 = .ok (.getfield 26, 3) := by decide +kernel
theorem dX4_swap_149 : decode cX4_swap 149 = .ok (.iconst 5, 1) := by decide +kernel
theorem dX4_swap_150 : decode cX4_swap 150 = .ok (.iload_n 1, 1) := by decide +kernel
theorem dX4_swap_151 : decode cX4_swap 151 = .ok (.iadd, 1) := by decide +kernel
theorem dX4_swap_152 : decode cX4_swap 152 = .ok (.baload, 1) := by decide +kernel
theorem dX4_swap_153 : decode cX4_swap 153 = .ok (.bastore, 1) := by decide +kernel
theorem dX4_swap_154 : decode cX4_swap 154 = .ok (.aload_n 0, 1) := by decide +kernel
theorem dX4_swap_155 : decode cX4_swap 155 = .ok (.getfield 20, 3) := by decide +kernel
theorem dX4_swap_158 : decode cX4_swap 158 = .ok (.iconst 5, 1) := by decide +kernel
theorem dX4_swap_159 : decode cX4_swap 159 = .ok (.iload_n 1, 1) := by decide +kernel
theorem dX4_swap_160 : decode cX4_swap 160 = .ok (.iadd, 1) := by decide +kernel
theorem dX4_swap_161 : decode cX4_swap 161 = .ok (.iload_n 2, 1) := by decide +kernel
theorem dX4_swap_162 : decode cX4_swap 162 = .ok (.iastore, 1) := by decide +kernel
theorem dX4_swap_163 : decode cX4_swap 163 = .ok (.aload_n 0, 1) := by decide +kernel
theorem dX4_swap_164 : decode cX4_swap 164 = .ok (.getfield 23, 3) := by decide +kernel
theorem dX4_swap_167 : decode cX4_swap 167 = .ok (.iconst 5, 1) := by decide +kernel
theorem dX4_swap_168 : decode cX4_swap 168 = .ok (.iload_n 1, 1) := by decide +kernel
theorem dX4_swap_169 : decode cX4_swap 169 = .ok (.iadd, 1) := by decide +kernel
theorem dX4_swap_170 : decode cX4_swap 170 = .ok (.iload_n 3, 1) := by decide +kernel
theorem dX4_swap_171 : decode cX4_swap 171 = .ok (.iastore, 1) := by decide +kernel
theorem dX4_swap_172 : decode cX4_swap 172 = .ok (.aload_n 0, 1) := by decide +kernel
theorem dX4_swap_173 : decode cX4_swap 173 = .ok (.getfield 26, 3) := by decide +kernel
theorem dX4_swap_176 : decode cX4_swap 176 = .ok (.iconst 5, 1) := by decide +kernel
theorem dX4_swap_177 : decode cX4_swap 177 = .ok (.iload_n 1, 1) := by decide +kernel
theorem dX4_swap_178 : decode cX4_swap 178 = .ok (.iadd, 1) := by decide +kernel
theorem dX4_swap_179 : decode cX4_swap 179 = .ok (.iload 4, 2) := by decide +kernel
theorem dX4_swap_181 : decode cX4_swap 181 = .ok (.bastore, 1) := by decide +kernel
theorem dX4_swap_182 : decode cX4_swap 182 = .ok (.iinc 1 1, 3) := by decide +kernel
theorem dX4_swap_185 : decode cX4_swap 185 = .ok (.goto (-100), 3) := by decide +kernel
theorem dX4_swap_188 : decode cX4_swap 188 = .ok (.aload_n 0, 1) := by decide +kernel
theorem dX4_swap_189 : decode cX4_swap 189 = .ok (.getfield 16, 3) := by decide +kernel
theorem dX4_swap_192 : decode cX4_swap 192 = .ok (.iconst 0, 1) := by decide +kernel
theorem dX4_swap_193 : decode cX4_swap 193 = .ok (.iaload, 1) := by decide +kernel
theorem dX4_swap_194 : decode cX4_swap 194 = .ok (.istore_n 1, 1) := by decide +kernel
theorem dX4_swap_195 : decode cX4_swap 195 = .ok (.aload_n 0, 1) := by decide +kernel
theorem dX4_swap_196 : decode cX4_swap 196 = .ok (.getfield 16, 3) := by decide +kernel
theorem dX4_swap_199 : decode cX4_swap 199 = .ok (.iconst 0, 1) := by decide +kernel
theorem dX4_swap_200 : decode cX4_swap 200 = .ok (.aload_n 0, 1) := by decide +kernel
theorem dX4_swap_201 : decode cX4_swap 201 = .ok (.getfield 16, 3) := by decide +kernel
theorem dX4_swap_204 : decode cX4_swap 204 = .ok (.iconst 1, 1) := by decide +kernel
theorem dX4_swap_205 : decode cX4_swap 205 = .ok (.iaload, 1) := by decide +kernel
theorem dX4_swap_206 : decode cX4_swap 206 = .ok (.iastore, 1) := by decide +kernel
theorem dX4_swap_207 : decode cX4_swap 207 = .ok (.aload_n 0, 1) := by decide +kernel
theorem dX4_swap_208 : decode cX4_swap 208 = .ok (.getfield 16, 3) := by decide +kernel
theorem dX4_swap_211 : decode cX4_swap 211 = .ok (.iconst 1, 1) := by decide +kernel
theorem dX4_swap_212 : decode cX4_swap 212 = .ok (.iload_n 1, 1) := by decide +kernel
theorem dX4_swap_213 : decode cX4_swap 213 = .ok (.iastore, 1) := by decide +kernel
theorem dX4_swap_214 : decode cX4_swap 214 = .ok (.return_, 1) := by decide +kernel
theorem dX4_pieces_0 : decode cX4_pieces 0 = .ok (.aload_n 0, 1) := by decide +kernel
theorem dX4_pieces_1 : decode cX4_pieces 1 = .ok (.iload_n 1, 1) := by decide +kernel
theorem dX4_pieces_2 : decode cX4_pieces 2 = .ok (.invokestatic 66, 3) := by decide +kernel
theorem dX4_pieces_5 : decode cX4_pieces 5 = .ok (.ifCond .eq 7, 3) := by decide +kernel
theorem dX4_pieces_8 : decode cX4_pieces 8 = .ok (.iconst 1, 1) := by decide +kernel
theorem dX4_pieces_9 : decode cX4_pieces 9 = .ok (.goto 4, 3) := by decide +kernel
theorem dX4_pieces_12 : decode cX4_pieces 12 = .ok (.iconst 0, 1) := by decide +kernel
theorem dX4_pieces_13 : decode cX4_pieces 13 = .ok (.putfield 62, 3) := by decide +kernel
theorem dX4_pieces_16 : decode cX4_pieces 16 = .ok (.aload_n 0, 1) := by decide +kernel
theorem dX4_pieces_17 : decode cX4_pieces 17 = .ok (.getfield 62, 3) := by decide +kernel
theorem dX4_pieces_20 : decode cX4_pieces 20 = .ok (.ifCond .le 7, 3) := by decide +kernel
theorem dX4_pieces_23 : decode cX4_pieces 23 = .ok (.iconst 0, 1) := by decide +kernel
theorem dX4_pieces_24 : decode cX4_pieces 24 = .ok (.goto 9, 3) := by decide +kernel
theorem dX4_pieces_27 : decode cX4_pieces 27 = .ok (.aload_n 0, 1) := by decide +kernel
theorem dX4_pieces_28 : decode cX4_pieces 28 = .ok (.getfield 16, 3) := by decide +kernel
theorem dX4_pieces_31 : decode cX4_pieces 31 = .ok (.iload_n 1, 1) := by decide +kernel
theorem dX4_pieces_32 : decode cX4_pieces 32 = .ok (.iaload, 1) := by decide +kernel
theorem dX4_pieces_33 : decode cX4_pieces 33 = .ok (.ireturn, 1) := by decide +kernel
theorem dX4_possible_0 : decode cX4_possible 0 = .ok (.aload_n 0, 1) := by decide +kernel
theorem dX4_possible_1 : decode cX4_possible 1 = .ok (.iload_n 1, 1) := by decide +kernel
theorem dX4_possible_2 : decode cX4_possible 2 = .ok (.invokestatic 66, 3) := by decide +kernel
theorem dX4_possible_5 : decode cX4_possible 5 = .ok (.ifCond .eq 7, 3) := by decide +kernel
theorem dX4_possible_8 : decode cX4_possible 8 = .ok (.iconst 1, 1) := by decide +kernel
theorem dX4_possible_9 : decode cX4_possible 9 = .ok (.goto 4, 3) := by decide +kernel
theorem dX4_possible_12 : decode cX4_possible 12 = .ok (.iconst 0, 1) := by decide +kernel
theorem dX4_possible_13 : decode cX4_possible 13 = .ok (.putfield 62, 3) := by decide +kernel
theorem dX4_possible_16 : decode cX4_possible 16 = .ok (.aload_n 0, 1) := by decide +kernel
theorem dX4_possible_17 : decode cX4_possible 17 = .ok (.iconst 0, 1) := by decide +kernel
theorem dX4_possible_18 : decode cX4_possible 18 = .ok (.putfield 109, 3) := by decide +kernel
theorem dX4_possible_21 : decode cX4_possible 21 = .ok (.aload_n 0, 1) := by decide +kernel
theorem dX4_possible_22 : decode cX4_possible 22 = .ok (.getfield 62, 3) := by decide +kernel
theorem dX4_possible_25 : decode cX4_possible 25 = .ok (.ifCond .ne 15, 3) := by decide +kernel
theorem dX4_possible_28 : decode cX4_possible 28 = .ok (.aload_n 0, 1) := by decide +kernel
theorem dX4_possible_29 : decode cX4_possible 29 = .ok (.iload_n 1, 1) := by decide +kernel
theorem dX4_possible_30 : decode cX4_possible 30 = .ok (.invokevirtual 121, 3) := by decide +kernel
theorem dX4_possible_33 : decode cX4_possible 33 = .ok (.ifCond .eq 7, 3) := by decide +kernel
theorem dX4_possible_36 : decode cX4_possible 36 = .ok (.iconst 1, 1) := by decide +kernel
theorem dX4_possible_37 : decode cX4_possible 37 = .ok (.goto 4, 3) := by decide +kernel
theorem dX4_possible_40 : decode cX4_possible 40 = .ok (.iconst 0, 1) := by decide +kernel
theorem dX4_possible_41 : decode cX4_possible 41 = .ok (.ireturn, 1) := by decide +kernel
theorem dX4_some_0 : decode cX4_some 0 = .ok (.iconst 0, 1) := by decide +kernel
theorem dX4_some_1 : decode cX4_some 1 = .ok (.istore_n 2, 1) := by decide +kernel
theorem dX4_some_2 : decode cX4_some 2 = .ok (.iload_n 2, 1) := by decide +kernel
theorem dX4_some_3 : decode cX4_some 3 = .ok (.bipush 6, 2) := by decide +kernel
theorem dX4_some_5 : decode cX4_some 5 = .ok (.if_icmp .ge 16, 3) := by decide +kernel
theorem dX4_some_8 : decode cX4_some 8 = .ok (.aload_n 0, 1) := by decide +kernel
theorem dX4_some_9 : decode cX4_some 9 = .ok (.getfield 29, 3) := by decide +kernel
theorem dX4_some_12 : decode cX4_some 12 = .ok (.iload_n 2, 1) := by decide +kernel
theorem dX4_some_13 : decode cX4_some 13 = .ok (.iconst 0, 1) := by decide +kernel
theorem dX4_some_14 : decode cX4_some 14 = .ok (.iastore, 1) := by decide +kernel
theorem dX4_some_15 : decode cX4_some 15 = .ok (.iinc 2 1, 3) := by decide +kernel
theorem dX4_some_18 : decode cX4_some 18 = .ok (.goto (-16), 3) := by decide +kernel
theorem dX4_some_21 : decode cX4_some 21 = .ok (.iconst 1, 1) := by decide +kernel
theorem dX4_some_22 : decode cX4_some 22 = .ok (.istore_n 2, 1) := by decide +kernel
theorem dX4_some_23 : decode cX4_some 23 = .ok (.iload_n 2, 1) := by decide +kernel
theorem dX4_some_24 : decode cX4_some 24 = .ok (.ifCond .eq 37, 3) := by decide +kernel
theorem dX4_some_27 : decode cX4_some 27 = .ok (.aload_n 0, 1) := by decide +kernel
theorem dX4_some_28 : decode cX4_some 28 = .ok (.iload_n 1, 1) := by decide +kernel
theorem dX4_some_29 : decode cX4_some 29 = .ok (.invokevirtual 91, 3) := by decide +kernel
theorem dX4_some_32 : decode cX4_some 32 = .ok (.ifCond .eq 21, 3) := by decide +kernel
theorem dX4_some_35 : decode cX4_some 35 = .ok (.aload_n 0, 1) := by decide +kernel
theorem dX4_some_36 : decode cX4_some 36 = .ok (.iload_n 1, 1) := by decide +kernel
theorem dX4_some_37 : decode cX4_some 37 = .ok (.invokevirtual 94, 3) := by decide +kernel
theorem dX4_some_40 : decode cX4_some 40 = .ok (.ifCond .eq 13, 3) := by decide +kernel
theorem dX4_some_43 : decode cX4_some 43 = .ok (.aload_n 0, 1) := by decide +kernel
theorem dX4_some_44 : decode cX4_some 44 = .ok (.iload_n 1, 1) := by decide +kernel
theorem dX4_some_45 : decode cX4_some 45 = .ok (.invokevirtual 97, 3) := by decide +kernel
theorem dX4_some_48 : decode cX4_some 48 = .ok (.ifCond .eq 5, 3) := by decide +kernel
theorem dX4_some_51 : decode cX4_some 51 = .ok (.iconst 1, 1) := by decide +kernel
theorem dX4_some_52 : decode cX4_some 52 = .ok (.ireturn, 1) := by decide +kernel
theorem dX4_some_53 : decode cX4_some 53 = .ok (.aload_n 0, 1) := by decide +kernel
theorem dX4_some_54 : decode cX4_some 54 = .ok (.invokevirtual 100, 3) := by decide +kernel
theorem dX4_some_57 : decode cX4_some 57 = .ok (.istore_n 2, 1) := by decide +kernel
theorem dX4_some_58 : decode cX4_some 58 = .ok (.goto (-35), 3) := by decide +kernel
theorem dX4_some_61 : decode cX4_some 61 = .ok (.iconst 0, 1) := by decide +kernel
theorem dX4_some_62 : decode cX4_some 62 = .ok (.ireturn, 1) := by decide +kernel

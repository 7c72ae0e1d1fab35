/-! decoded instructions -/
theorem dX4_pairsTrue_0 : decode cX4_pairsTrue 0 = .ok (.iconst 0, 1) := by decide +kernel
theorem dX4_pairsTrue_1 : decode cX4_pairsTrue 1 = .ok (.istore_n 2, 1) := by decide +kernel
theorem dX4_pairsTrue_2 : decode cX4_pairsTrue 2 = .ok (.iload_n 2, 1) := by decide +kernel
theorem dX4_pairsTrue_3 : decode cX4_pairsTrue 3 = .ok (.bipush 6, 2) := by decide +kernel
theorem dX4_pairsTrue_5 : decode cX4_pairsTrue 5 = .ok (.if_icmp .ge 88, 3) := by decide +kernel
theorem dX4_pairsTrue_8 : decode cX4_pairsTrue 8 = .ok (.iconst 0, 1) := by decide +kernel
theorem dX4_pairsTrue_9 : decode cX4_pairsTrue 9 = .ok (.istore_n 3, 1) := by decide +kernel
theorem dX4_pairsTrue_10 : decode cX4_pairsTrue 10 = .ok (.iload_n 3, 1) := by decide +kernel
theorem dX4_pairsTrue_11 : decode cX4_pairsTrue 11 = .ok (.bipush 6, 2) := by decide +kernel
theorem dX4_pairsTrue_13 : decode cX4_pairsTrue 13 = .ok (.if_icmp .ge 74, 3) := by decide +kernel
theorem dX4_pairsTrue_16 : decode cX4_pairsTrue 16 = .ok (.bipush 36, 2) := by decide +kernel
theorem dX4_pairsTrue_18 : decode cX4_pairsTrue 18 = .ok (.iload_n 1, 1) := by decide +kernel
theorem dX4_pairsTrue_19 : decode cX4_pairsTrue 19 = .ok (.imul, 1) := by decide +kernel
theorem dX4_pairsTrue_20 : decode cX4_pairsTrue 20 = .ok (.bipush 6, 2) := by decide +kernel
theorem dX4_pairsTrue_22 : decode cX4_pairsTrue 22 = .ok (.iload_n 2, 1) := by decide +kernel
theorem dX4_pairsTrue_23 : decode cX4_pairsTrue 23 = .ok (.imul, 1) := by decide +kernel
theorem dX4_pairsTrue_24 : decode cX4_pairsTrue 24 = .ok (.iadd, 1) := by decide +kernel
theorem dX4_pairsTrue_25 : decode cX4_pairsTrue 25 = .ok (.iload_n 3, 1) := by decide +kernel
theorem dX4_pairsTrue_26 : decode cX4_pairsTrue 26 = .ok (.iadd, 1) := by decide +kernel
theorem dX4_pairsTrue_27 : decode cX4_pairsTrue 27 = .ok (.istore 4, 2) := by decide +kernel
theorem dX4_pairsTrue_29 : decode cX4_pairsTrue 29 = .ok (.aload_n 0, 1) := by decide +kernel
theorem dX4_pairsTrue_30 : decode cX4_pairsTrue 30 = .ok (.getfield 7, 3) := by decide +kernel
theorem dX4_pairsTrue_33 : decode cX4_pairsTrue 33 = .ok (.iload 4, 2) := by decide +kernel
theorem dX4_pairsTrue_35 : decode cX4_pairsTrue 35 = .ok (.baload, 1) := by decide +kernel
theorem dX4_pairsTrue_36 : decode cX4_pairsTrue 36 = .ok (.ifCond .eq 18, 3) := by decide +kernel
theorem dX4_pairsTrue_39 : decode cX4_pairsTrue 39 = .ok (.aload_n 0, 1) := by decide +kernel
theorem dX4_pairsTrue_40 : decode cX4_pairsTrue 40 = .ok (.getfield 29, 3) := by decide +kernel
theorem dX4_pairsTrue_43 : decode cX4_pairsTrue 43 = .ok (.iload_n 2, 1) := by decide +kernel
theorem dX4_pairsTrue_44 : decode cX4_pairsTrue 44 = .ok (.iaload, 1) := by decide +kernel
theorem dX4_pairsTrue_45 : decode cX4_pairsTrue 45 = .ok (.aload_n 0, 1) := by decide +kernel
theorem dX4_pairsTrue_46 : decode cX4_pairsTrue 46 = .ok (.getfield 29, 3) := by decide +kernel
theorem dX4_pairsTrue_49 : decode cX4_pairsTrue 49 = .ok (.iload_n 3, 1) := by decide +kernel
theorem dX4_pairsTrue_50 : decode cX4_pairsTrue 50 = .ok (.iaload, 1) := by decide +kernel
theorem dX4_pairsTrue_51 : decode cX4_pairsTrue 51 = .ok (.if_icmp .ne 28, 3) := by decide +kernel
theorem dX4_pairsTrue_54 : decode cX4_pairsTrue 54 = .ok (.aload_n 0, 1) := by decide +kernel
theorem dX4_pairsTrue_55 : decode cX4_pairsTrue 55 = .ok (.getfield 13, 3) := by decide +kernel
theorem dX4_pairsTrue_58 : decode cX4_pairsTrue 58 = .ok (.iload 4, 2) := by decide +kernel
theorem dX4_pairsTrue_60 : decode cX4_pairsTrue 60 = .ok (.baload, 1) := by decide +kernel
theorem dX4_pairsTrue_61 : decode cX4_pairsTrue 61 = .ok (.ifCond .eq 20, 3) := by decide +kernel
theorem dX4_pairsTrue_64 : decode cX4_pairsTrue 64 = .ok (.aload_n 0, 1) := by decide +kernel
theorem dX4_pairsTrue_65 : decode cX4_pairsTrue 65 = .ok (.getfield 29, 3) := by decide +kernel
theorem dX4_pairsTrue_68 : decode cX4_pairsTrue 68 = .ok (.iload_n 2, 1) := by decide +kernel
theorem dX4_pairsTrue_69 : decode cX4_pairsTrue 69 = .ok (.iaload, 1) := by decide +kernel
theorem dX4_pairsTrue_70 : decode cX4_pairsTrue 70 = .ok (.aload_n 0, 1) := by decide +kernel
theorem dX4_pairsTrue_71 : decode cX4_pairsTrue 71 = .ok (.getfield 29, 3) := by decide +kernel
theorem dX4_pairsTrue_74 : decode cX4_pairsTrue 74 = .ok (.iload_n 3, 1) := by decide +kernel
theorem dX4_pairsTrue_75 : decode cX4_pairsTrue 75 = .ok (.iaload, 1) := by decide +kernel
theorem dX4_pairsTrue_76 : decode cX4_pairsTrue 76 = .ok (.if_icmp .ne 5, 3) := by decide +kernel
theorem dX4_pairsTrue_79 : decode cX4_pairsTrue 79 = .ok (.iconst 0, 1) := by decide +kernel
theorem dX4_pairsTrue_80 : decode cX4_pairsTrue 80 = .ok (.ireturn, 1) := by decide +kernel
theorem dX4_pairsTrue_81 : decode cX4_pairsTrue 81 = .ok (.iinc 3 1, 3) := by decide +kernel
theorem dX4_pairsTrue_84 : decode cX4_pairsTrue 84 = .ok (.goto (-74), 3) := by decide +kernel
theorem dX4_pairsTrue_87 : decode cX4_pairsTrue 87 = .ok (.iinc 2 1, 3) := by decide +kernel
theorem dX4_pairsTrue_90 : decode cX4_pairsTrue 90 = .ok (.goto (-88), 3) := by decide +kernel
theorem dX4_pairsTrue_93 : decode cX4_pairsTrue 93 = .ok (.iconst 1, 1) := by decide +kernel
theorem dX4_pairsTrue_94 : decode cX4_pairsTrue 94 = .ok (.ireturn, 1) := by decide +kernel
theorem dX4_begun_0 : decode cX4_begun 0 = .ok (.iconst 0, 1) := by decide +kernel
theorem dX4_begun_1 : decode cX4_begun 1 = .ok (.istore_n 2, 1) := by decide +kernel
theorem dX4_begun_2 : decode cX4_begun 2 = .ok (.iload_n 2, 1) := by decide +kernel
theorem dX4_begun_3 : decode cX4_begun 3 = .ok (.bipush 6, 2) := by decide +kernel
theorem dX4_begun_5 : decode cX4_begun 5 = .ok (.if_icmp .ge 16, 3) := by decide +kernel
theorem dX4_begun_8 : decode cX4_begun 8 = .ok (.aload_n 0, 1) := by decide +kernel
theorem dX4_begun_9 : decode cX4_begun 9 = .ok (.getfield 32, 3) := by decide +kernel
theorem dX4_begun_12 : decode cX4_begun 12 = .ok (.iload_n 2, 1) := by decide +kernel
theorem dX4_begun_13 : decode cX4_begun 13 = .ok (.iconst 0, 1) := by decide +kernel
theorem dX4_begun_14 : decode cX4_begun 14 = .ok (.bastore, 1) := by decide +kernel
theorem dX4_begun_15 : decode cX4_begun 15 = .ok (.iinc 2 1, 3) := by decide +kernel
theorem dX4_begun_18 : decode cX4_begun 18 = .ok (.goto (-16), 3) := by decide +kernel
theorem dX4_begun_21 : decode cX4_begun 21 = .ok (.iconst 5, 1) := by decide +kernel
theorem dX4_begun_22 : decode cX4_begun 22 = .ok (.iload_n 1, 1) := by decide +kernel
theorem dX4_begun_23 : decode cX4_begun 23 = .ok (.imul, 1) := by decide +kernel
theorem dX4_begun_24 : decode cX4_begun 24 = .ok (.istore_n 2, 1) := by decide +kernel
theorem dX4_begun_25 : decode cX4_begun 25 = .ok (.iload_n 2, 1) := by decide +kernel
theorem dX4_begun_26 : decode cX4_begun 26 = .ok (.iconst 5, 1) := by decide +kernel
theorem dX4_begun_27 : decode cX4_begun 27 = .ok (.iload_n 1, 1) := by decide +kernel
theorem dX4_begun_28 : decode cX4_begun 28 = .ok (.imul, 1) := by decide +kernel
theorem dX4_begun_29 : decode cX4_begun 29 = .ok (.aload_n 0, 1) := by decide +kernel
theorem dX4_begun_30 : decode cX4_begun 30 = .ok (.getfield 16, 3) := by decide +kernel
theorem dX4_begun_33 : decode cX4_begun 33 = .ok (.iload_n 1, 1) := by decide +kernel
theorem dX4_begun_34 : decode cX4_begun 34 = .ok (.iaload, 1) := by decide +kernel
theorem dX4_begun_35 : decode cX4_begun 35 = .ok (.iadd, 1) := by decide +kernel
theorem dX4_begun_36 : decode cX4_begun 36 = .ok (.if_icmp .ge 81, 3) := by decide +kernel
theorem dX4_begun_39 : decode cX4_begun 39 = .ok (.aload_n 0, 1) := by decide +kernel
theorem dX4_begun_40 : decode cX4_begun 40 = .ok (.getfield 29, 3) := by decide +kernel
theorem dX4_begun_43 : decode cX4_begun 43 = .ok (.aload_n 0, 1) := by decide +kernel
theorem dX4_begun_44 : decode cX4_begun 44 = .ok (.getfield 20, 3) := by decide +kernel
theorem dX4_begun_47 : decode cX4_begun 47 = .ok (.iload_n 2, 1) := by decide +kernel
theorem dX4_begun_48 : decode cX4_begun 48 = .ok (.iaload, 1) := by decide +kernel
theorem dX4_begun_49 : decode cX4_begun 49 = .ok (.iaload, 1) := by decide +kernel
theorem dX4_begun_50 : decode cX4_begun 50 = .ok (.istore_n 3, 1) := by decide +kernel
theorem dX4_begun_51 : decode cX4_begun 51 = .ok (.aload_n 0, 1) := by decide +kernel
theorem dX4_begun_52 : decode cX4_begun 52 = .ok (.iload_n 2, 1) := by decide +kernel
theorem dX4_begun_53 : decode cX4_begun 53 = .ok (.invokevirtual 73, 3) := by decide +kernel
theorem dX4_begun_56 : decode cX4_begun 56 = .ok (.ifCond .ne 55, 3) := by decide +kernel
theorem dX4_begun_59 : decode cX4_begun 59 = .ok (.iload_n 3, 1) := by decide +kernel
theorem dX4_begun_60 : decode cX4_begun 60 = .ok (.aload_n 0, 1) := by decide +kernel
theorem dX4_begun_61 : decode cX4_begun 61 = .ok (.getfield 29, 3) := by decide +kernel
theorem dX4_begun_64 : decode cX4_begun 64 = .ok (.iconst 5, 1) := by decide +kernel
theorem dX4_begun_65 : decode cX4_begun 65 = .ok (.iaload, 1) := by decide +kernel
theorem dX4_begun_66 : decode cX4_begun 66 = .ok (.if_icmp .eq 12, 3) := by decide +kernel
theorem dX4_begun_69 : decode cX4_begun 69 = .ok (.aload_n 0, 1) := by decide +kernel
theorem dX4_begun_70 : decode cX4_begun 70 = .ok (.getfield 32, 3) := by decide +kernel
theorem dX4_begun_73 : decode cX4_begun 73 = .ok (.iload_n 3, 1) := by decide +kernel
theorem dX4_begun_74 : decode cX4_begun 74 = .ok (.baload, 1) := by decide +kernel
theorem dX4_begun_75 : decode cX4_begun 75 = .ok (.ifCond .eq 5, 3) := by decide +kernel
theorem dX4_begun_78 : decode cX4_begun 78 = .ok (.iconst 0, 1) := by decide +kernel
theorem dX4_begun_79 : decode cX4_begun 79 = .ok (.ireturn, 1) := by decide +kernel
theorem dX4_begun_80 : decode cX4_begun 80 = .ok (.aload_n 0, 1) := by decide +kernel
theorem dX4_begun_81 : decode cX4_begun 81 = .ok (.getfield 32, 3) := by decide +kernel
theorem dX4_begun_84 : decode cX4_begun 84 = .ok (.iload_n 3, 1) := by decide +kernel
theorem dX4_begun_85 : decode cX4_begun 85 = .ok (.iconst 1, 1) := by decide +kernel
theorem dX4_begun_86 : decode cX4_begun 86 = .ok (.bastore, 1) := by decide +kernel
theorem dX4_begun_87 : decode cX4_begun 87 = .ok (.aload_n 0, 1) := by decide +kernel
theorem dX4_begun_88 : decode cX4_begun 88 = .ok (.getfield 35, 3) := by decide +kernel
theorem dX4_begun_91 : decode cX4_begun 91 = .ok (.iload_n 3, 1) := by decide +kernel
theorem dX4_begun_92 : decode cX4_begun 92 = .ok (.aload_n 0, 1) := by decide +kernel
theorem dX4_begun_93 : decode cX4_begun 93 = .ok (.getfield 29, 3) := by decide +kernel
theorem dX4_begun_96 : decode cX4_begun 96 = .ok (.aload_n 0, 1) := by decide +kernel
theorem dX4_begun_97 : decode cX4_begun 97 = .ok (.getfield 23, 3) := by decide +kernel
theorem dX4_begun_100 : decode cX4_begun 100 = .ok (.iload_n 2, 1) := by decide +kernel
theorem dX4_begun_101 : decode cX4_begun 101 = .ok (.iaload, 1) := by decide +kernel
theorem dX4_begun_102 : decode cX4_begun 102 = .ok (.iaload, 1) := by decide +kernel
theorem dX4_begun_103 : decode cX4_begun 103 = .ok (.iastore, 1) := by decide +kernel
theorem dX4_begun_104 : decode cX4_begun 104 = .ok (.aload_n 0, 1) := by decide +kernel
theorem dX4_begun_105 : decode cX4_begun 105 = .ok (.getfield 38, 3) := by decide +kernel
theorem dX4_begun_108 : decode cX4_begun 108 = .ok (.iload_n 3, 1) := by decide +kernel
theorem dX4_begun_109 : decode cX4_begun 109 = .ok (.iconst 0, 1) := by decide +kernel
theorem dX4_begun_110 : decode cX4_begun 110 = .ok (.bastore, 1) := by decide +kernel
theorem dX4_begun_111 : decode cX4_begun 111 = .ok (.iinc 2 1, 3) := by decide +kernel
theorem dX4_begun_114 : decode cX4_begun 114 = .ok (.goto (-89), 3) := by decide +kernel
theorem dX4_begun_117 : decode cX4_begun 117 = .ok (.iconst 1, 1) := by decide +kernel
theorem dX4_begun_118 : decode cX4_begun 118 = .ok (.ireturn, 1) := by decide +kernel
theorem dX4_isEmpty_0 : decode cX4_isEmpty 0 = .ok (.aload_n 0, 1) := by decide +kernel
theorem dX4_isEmpty_1 : decode cX4_isEmpty 1 = .ok (.getfield 26, 3) := by decide +kernel
theorem dX4_isEmpty_4 : decode cX4_isEmpty 4 = .ok (.iload_n 1, 1) := by decide +kernel
theorem dX4_isEmpty_5 : decode cX4_isEmpty 5 = .ok (.baload, 1) := by decide +kernel
theorem dX4_isEmpty_6 : decode cX4_isEmpty 6 = .ok (.ifCond .eq 32, 3) := by decide +kernel
theorem dX4_isEmpty_9 : decode cX4_isEmpty 9 = .ok (.aload_n 0, 1) := by decide +kernel
theorem dX4_isEmpty_10 : decode cX4_isEmpty 10 = .ok (.getfield 29, 3) := by decide +kernel
theorem dX4_isEmpty_13 : decode cX4_isEmpty 13 = .ok (.aload_n 0, 1) := by decide +kernel
theorem dX4_isEmpty_14 : decode cX4_isEmpty 14 = .ok (.getfield 20, 3) := by decide +kernel
theorem dX4_isEmpty_17 : decode cX4_isEmpty 17 = .ok (.iload_n 1, 1) := by decide +kernel
theorem dX4_isEmpty_18 : decode cX4_isEmpty 18 = .ok (.iaload, 1) := by decide +kernel
theorem dX4_isEmpty_19 : decode cX4_isEmpty 19 = .ok (.iaload, 1) := by decide +kernel
theorem dX4_isEmpty_20 : decode cX4_isEmpty 20 = .ok (.aload_n 0, 1) := by decide +kernel
theorem dX4_isEmpty_21 : decode cX4_isEmpty 21 = .ok (.getfield 29, 3) := by decide +kernel
theorem dX4_isEmpty_24 : decode cX4_isEmpty 24 = .ok (.aload_n 0, 1) := by decide +kernel
theorem dX4_isEmpty_25 : decode cX4_isEmpty 25 = .ok (.getfield 23, 3) := by decide +kernel
theorem dX4_isEmpty_28 : decode cX4_isEmpty 28 = .ok (.iload_n 1, 1) := by decide +kernel
theorem dX4_isEmpty_29 : decode cX4_isEmpty 29 = .ok (.iaload, 1) := by decide +kernel
theorem dX4_isEmpty_30 : decode cX4_isEmpty 30 = .ok (.iaload, 1) := by decide +kernel
theorem dX4_isEmpty_31 : decode cX4_isEmpty 31 = .ok (.if_icmp .ne 7, 3) := by decide +kernel
theorem dX4_isEmpty_34 : decode cX4_isEmpty 34 = .ok (.iconst 1, 1) := by decide +kernel
theorem dX4_isEmpty_35 : decode cX4_isEmpty 35 = .ok (.goto 4, 3) := by decide +kernel
theorem dX4_isEmpty_38 : decode cX4_isEmpty 38 = .ok (.iconst 0, 1) := by decide +kernel
theorem dX4_isEmpty_39 : decode cX4_isEmpty 39 = .ok (.ireturn, 1) := by decide +kernel
theorem dX4_someWay_0 : decode cX4_someWay 0 = .ok (.iconst 0, 1) := by decide +kernel
theorem dX4_someWay_1 : decode cX4_someWay 1 = .ok (.istore_n 2, 1) := by decide +kernel
theorem dX4_someWay_2 : decode cX4_someWay 2 = .ok (.aload_n 0, 1) := by decide +kernel
theorem dX4_someWay_3 : decode cX4_someWay 3 = .ok (.iload_n 1, 1) := by decide +kernel
theorem dX4_someWay_4 : decode cX4_someWay 4 = .ok (.iconst 5, 1) := by decide +kernel
theorem dX4_someWay_5 : decode cX4_someWay 5 = .ok (.iload_n 1, 1) := by decide +kernel
theorem dX4_someWay_6 : decode cX4_someWay 6 = .ok (.imul, 1) := by decide +kernel
theorem dX4_someWay_7 : decode cX4_someWay 7 = .ok (.invokevirtual 76, 3) := by decide +kernel
theorem dX4_someWay_10 : decode cX4_someWay 10 = .ok (.istore_n 3, 1) := by decide +kernel
theorem dX4_someWay_11 : decode cX4_someWay 11 = .ok (.iload_n 3, 1) := by decide +kernel
theorem dX4_someWay_12 : decode cX4_someWay 12 = .ok (.ifCond .ge 8, 3) := by decide +kernel
theorem dX4_someWay_15 : decode cX4_someWay 15 = .ok (.aload_n 0, 1) := by decide +kernel
theorem dX4_someWay_16 : decode cX4_someWay 16 = .ok (.invokevirtual 80, 3) := by decide +kernel
theorem dX4_someWay_19 : decode cX4_someWay 19 = .ok (.ireturn, 1) := by decide +kernel
theorem dX4_someWay_20 : decode cX4_someWay 20 = .ok (.aload_n 0, 1) := by decide +kernel
theorem dX4_someWay_21 : decode cX4_someWay 21 = .ok (.getfield 47, 3) := by decide +kernel
theorem dX4_someWay_24 : decode cX4_someWay 24 = .ok (.iconst 0, 1) := by decide +kernel
theorem dX4_someWay_25 : decode cX4_someWay 25 = .ok (.iload_n 3, 1) := by decide +kernel
theorem dX4_someWay_26 : decode cX4_someWay 26 = .ok (.iastore, 1) := by decide +kernel
theorem dX4_someWay_27 : decode cX4_someWay 27 = .ok (.aload_n 0, 1) := by decide +kernel
theorem dX4_someWay_28 : decode cX4_someWay 28 = .ok (.getfield 50, 3) := by decide +kernel
theorem dX4_someWay_31 : decode cX4_someWay 31 = .ok (.iconst 0, 1) := by decide +kernel
theorem dX4_someWay_32 : decode cX4_someWay 32 = .ok (.aload_n 0, 1) := by decide +kernel
theorem dX4_someWay_33 : decode cX4_someWay 33 = .ok (.getfield 29, 3) := by decide +kernel
theorem dX4_someWay_36 : decode cX4_someWay 36 = .ok (.aload_n 0, 1) := by decide +kernel
theorem dX4_someWay_37 : decode cX4_someWay 37 = .ok (.getfield 20, 3) := by decide +kernel
theorem dX4_someWay_40 : decode cX4_someWay 40 = .ok (.iload_n 3, 1) := by decide +kernel
theorem dX4_someWay_41 : decode cX4_someWay 41 = .ok (.iaload, 1) := by decide +kernel
theorem dX4_someWay_42 : decode cX4_someWay 42 = .ok (.iaload, 1) := by decide +kernel
theorem dX4_someWay_43 : decode cX4_someWay 43 = .ok (.iastore, 1) := by decide +kernel
theorem dX4_someWay_44 : decode cX4_someWay 44 = .ok (.aload_n 0, 1) := by decide +kernel
theorem dX4_someWay_45 : decode cX4_someWay 45 = .ok (.getfield 44, 3) := by decide +kernel
theorem dX4_someWay_48 : decode cX4_someWay 48 = .ok (.iconst 0, 1) := by decide +kernel
theorem dX4_someWay_49 : decode cX4_someWay 49 = .ok (.iconst (-1), 1) := by decide +kernel
theorem dX4_someWay_50 : decode cX4_someWay 50 = .ok (.iastore, 1) := by decide +kernel
theorem dX4_someWay_51 : decode cX4_someWay 51 = .ok (.iload_n 2, 1) := by decide +kernel
theorem dX4_someWay_52 : decode cX4_someWay 52 = .ok (.ifCond .lt 285, 3) := by decide +kernel
theorem dX4_someWay_55 : decode cX4_someWay 55 = .ok (.aload_n 0, 1) := by decide +kernel
theorem dX4_someWay_56 : decode cX4_someWay 56 = .ok (.getfield 44, 3) := by decide +kernel
theorem dX4_someWay_59 : decode cX4_someWay 59 = .ok (.iload_n 2, 1) := by decide +kernel
theorem dX4_someWay_60 : decode cX4_someWay 60 = .ok (.iaload, 1) := by decide +kernel
theorem dX4_someWay_61 : decode cX4_someWay 61 = .ok (.iconst 1, 1) := by decide +kernel
theorem dX4_someWay_62 : decode cX4_someWay 62 = .ok (.if_icmp .le 16, 3) := by decide +kernel
theorem dX4_someWay_65 : decode cX4_someWay 65 = .ok (.aload_n 0, 1) := by decide +kernel
theorem dX4_someWay_66 : decode cX4_someWay 66 = .ok (.getfield 44, 3) := by decide +kernel
theorem dX4_someWay_69 : decode cX4_someWay 69 = .ok (.iload_n 2, 1) := by decide +kernel
theorem dX4_someWay_70 : decode cX4_someWay 70 = .ok (.iaload, 1) := by decide +kernel
theorem dX4_someWay_71 : decode cX4_someWay 71 = .ok (.iconst 2, 1) := by decide +kernel
theorem dX4_someWay_72 : decode cX4_someWay 72 = .ok (.idiv, 1) := by decide +kernel
theorem dX4_someWay_73 : decode cX4_someWay 73 = .ok (.iconst 1, 1) := by decide +kernel
theorem dX4_someWay_74 : decode cX4_someWay 74 = .ok (.isub, 1) := by decide +kernel
theorem dX4_someWay_75 : decode cX4_someWay 75 = .ok (.goto 4, 3) := by decide +kernel
theorem dX4_someWay_78 : decode cX4_someWay 78 = .ok (.iconst (-1), 1) := by decide +kernel
theorem dX4_someWay_79 : decode cX4_someWay 79 = .ok (.istore 4, 2) := by decide +kernel
theorem dX4_someWay_81 : decode cX4_someWay 81 = .ok (.iload 4, 2) := by decide +kernel
theorem dX4_someWay_83 : decode cX4_someWay 83 = .ok (.ifCond .lt 11, 3) := by decide +kernel
theorem dX4_someWay_86 : decode cX4_someWay 86 = .ok (.aload_n 0, 1) := by decide +kernel
theorem dX4_someWay_87 : decode cX4_someWay 87 = .ok (.getfield 32, 3) := by decide +kernel
theorem dX4_someWay_90 : decode cX4_someWay 90 = .ok (.iload 4, 2) := by decide +kernel
theorem dX4_someWay_92 : decode cX4_someWay 92 = .ok (.iconst 0, 1) := by decide +kernel
theorem dX4_someWay_93 : decode cX4_someWay 93 = .ok (.bastore, 1) := by decide +kernel
theorem dX4_someWay_94 : decode cX4_someWay 94 = .ok (.aload_n 0, 1) := by decide +kernel
theorem dX4_someWay_95 : decode cX4_someWay 95 = .ok (.getfield 29, 3) := by decide +kernel
theorem dX4_someWay_98 : decode cX4_someWay 98 = .ok (.aload_n 0, 1) := by decide +kernel
theorem dX4_someWay_99 : decode cX4_someWay 99 = .ok (.getfield 23, 3) := by decide +kernel
theorem dX4_someWay_102 : decode cX4_someWay 102 = .ok (.aload_n 0, 1) := by decide +kernel
theorem dX4_someWay_103 : decode cX4_someWay 103 = .ok (.getfield 47, 3) := by decide +kernel
theorem dX4_someWay_106 : decode cX4_someWay 106 = .ok (.iload_n 2, 1) := by decide +kernel
theorem dX4_someWay_107 : decode cX4_someWay 107 = .ok (.iaload, 1) := by decide +kernel
theorem dX4_someWay_108 : decode cX4_someWay 108 = .ok (.iaload, 1) := by decide +kernel
theorem dX4_someWay_109 : decode cX4_someWay 109 = .ok (.iaload, 1) := by decide +kernel
theorem dX4_someWay_110 : decode cX4_someWay 110 = .ok (.istore 5, 2) := by decide +kernel
theorem dX4_someWay_112 : decode cX4_someWay 112 = .ok (.aload_n 0, 1) := by decide +kernel
theorem dX4_someWay_113 : decode cX4_someWay 113 = .ok (.getfield 44, 3) := by decide +kernel
theorem dX4_someWay_116 : decode cX4_someWay 116 = .ok (.iload_n 2, 1) := by decide +kernel
theorem dX4_someWay_117 : decode cX4_someWay 117 = .ok (.iaload, 1) := by decide +kernel
theorem dX4_someWay_118 : decode cX4_someWay 118 = .ok (.iconst 1, 1) := by decide +kernel
theorem dX4_someWay_119 : decode cX4_someWay 119 = .ok (.iadd, 1) := by decide +kernel
theorem dX4_someWay_120 : decode cX4_someWay 120 = .ok (.istore 6, 2) := by decide +kernel
theorem dX4_someWay_122 : decode cX4_someWay 122 = .ok (.iload 6, 2) := by decide +kernel
theorem dX4_someWay_124 : decode cX4_someWay 124 = .ok (.bipush 14, 2) := by decide +kernel
theorem dX4_someWay_126 : decode cX4_someWay 126 = .ok (.if_icmp .ge 30, 3) := by decide +kernel
theorem dX4_someWay_129 : decode cX4_someWay 129 = .ok (.iload 6, 2) := by decide +kernel
theorem dX4_someWay_131 : decode cX4_someWay 131 = .ok (.iconst 1, 1) := by decide +kernel
theorem dX4_someWay_132 : decode cX4_someWay 132 = .ok (.if_icmp .le 24, 3) := by decide +kernel
theorem dX4_someWay_135 : decode cX4_someWay 135 = .ok (.aload_n 0, 1) := by decide +kernel
theorem dX4_someWay_136 : decode cX4_someWay 136 = .ok (.iload 6, 2) := by decide +kernel
theorem dX4_someWay_138 : decode cX4_someWay 138 = .ok (.iconst 2, 1) := by decide +kernel
theorem dX4_someWay_139 : decode cX4_someWay 139 = .ok (.idiv, 1) := by decide +kernel
theorem dX4_someWay_140 : decode cX4_someWay 140 = .ok (.iconst 1, 1) := by decide +kernel
theorem dX4_someWay_141 : decode cX4_someWay 141 = .ok (.isub, 1) := by decide +kernel
theorem dX4_someWay_142 : decode cX4_someWay 142 = .ok (.iload 5, 2) := by decide +kernel
theorem dX4_someWay_144 : decode cX4_someWay 144 = .ok (.invokevirtual 84, 3) := by decide +kernel
theorem dX4_someWay_147 : decode cX4_someWay 147 = .ok (.ifCond .ne 9, 3) := by decide +kernel
theorem dX4_someWay_150 : decode cX4_someWay 150 = .ok (.iinc 6 1, 3) := by decide +kernel
theorem dX4_someWay_153 : decode cX4_someWay 153 = .ok (.goto (-31), 3) := by decide +kernel
theorem dX4_someWay_156 : decode cX4_someWay 156 = .ok (.iload 6, 2) := by decide +kernel
theorem dX4_someWay_158 : decode cX4_someWay 158 = .ok (.bipush 14, 2) := by decide +kernel
theorem dX4_someWay_160 : decode cX4_someWay 160 = .ok (.if_icmp .ne 9, 3) := by decide +kernel
theorem dX4_someWay_163 : decode cX4_someWay 163 = .ok (.iinc 2 (-1), 3) := by decide +kernel
theorem dX4_someWay_166 : decode cX4_someWay 166 = .ok (.goto 168, 3) := by decide +kernel
theorem dX4_someWay_169 : decode cX4_someWay 169 = .ok (.aload_n 0, 1) := by decide +kernel
theorem dX4_someWay_170 : decode cX4_someWay 170 = .ok (.getfield 44, 3) := by decide +kernel
theorem dX4_someWay_173 : decode cX4_someWay 173 = .ok (.iload_n 2, 1) := by decide +kernel
theorem dX4_someWay_174 : decode cX4_someWay 174 = .ok (.iload 6, 2) := by decide +kernel
theorem dX4_someWay_176 : decode cX4_someWay 176 = .ok (.iastore, 1) := by decide +kernel
theorem dX4_someWay_177 : decode cX4_someWay 177 = .ok (.iload 6, 2) := by decide +kernel
theorem dX4_someWay_179 : decode cX4_someWay 179 = .ok (.iconst 2, 1) := by decide +kernel
theorem dX4_someWay_180 : decode cX4_someWay 180 = .ok (.idiv, 1) := by decide +kernel
theorem dX4_someWay_181 : decode cX4_someWay 181 = .ok (.iconst 1, 1) := by decide +kernel
theorem dX4_someWay_182 : decode cX4_someWay 182 = .ok (.isub, 1) := by decide +kernel
theorem dX4_someWay_183 : decode cX4_someWay 183 = .ok (.istore 4, 2) := by decide +kernel
theorem dX4_someWay_185 : decode cX4_someWay 185 = .ok (.aload_n 0, 1) := by decide +kernel
theorem dX4_someWay_186 : decode cX4_someWay 186 = .ok (.getfield 35, 3) := by decide +kernel
theorem dX4_someWay_189 : decode cX4_someWay 189 = .ok (.aload_n 0, 1) := by decide +kernel
theorem dX4_someWay_190 : decode cX4_someWay 190 = .ok (.getfield 50, 3) := by decide +kernel
theorem dX4_someWay_193 : decode cX4_someWay 193 = .ok (.iload_n 2, 1) := by decide +kernel
theorem dX4_someWay_194 : decode cX4_someWay 194 = .ok (.iaload, 1) := by decide +kernel
theorem dX4_someWay_195 : decode cX4_someWay 195 = .ok (.iload 4, 2) := by decide +kernel
theorem dX4_someWay_197 : decode cX4_someWay 197 = .ok (.ifCond .ge 8, 3) := by decide +kernel
theorem dX4_someWay_200 : decode cX4_someWay 200 = .ok (.iload 5, 2) := by decide +kernel
theorem dX4_someWay_202 : decode cX4_someWay 202 = .ok (.goto 5, 3) := by decide +kernel
theorem dX4_someWay_205 : decode cX4_someWay 205 = .ok (.iload 4, 2) := by decide +kernel
theorem dX4_someWay_207 : decode cX4_someWay 207 = .ok (.iastore, 1) := by decide +kernel
theorem dX4_someWay_208 : decode cX4_someWay 208 = .ok (.aload_n 0, 1) := by decide +kernel
theorem dX4_someWay_209 : decode cX4_someWay 209 = .ok (.getfield 38, 3) := by decide +kernel
theorem dX4_someWay_212 : decode cX4_someWay 212 = .ok (.aload_n 0, 1) := by decide +kernel
theorem dX4_someWay_213 : decode cX4_someWay 213 = .ok (.getfield 50, 3) := by decide +kernel
theorem dX4_someWay_216 : decode cX4_someWay 216 = .ok (.iload_n 2, 1) := by decide +kernel
theorem dX4_someWay_217 : decode cX4_someWay 217 = .ok (.iaload, 1) := by decide +kernel
theorem dX4_someWay_218 : decode cX4_someWay 218 = .ok (.iload 6, 2) := by decide +kernel
theorem dX4_someWay_220 : decode cX4_someWay 220 = .ok (.iconst 2, 1) := by decide +kernel
theorem dX4_someWay_221 : decode cX4_someWay 221 = .ok (.irem, 1) := by decide +kernel
theorem dX4_someWay_222 : decode cX4_someWay 222 = .ok (.iconst 1, 1) := by decide +kernel
theorem dX4_someWay_223 : decode cX4_someWay 223 = .ok (.if_icmp .ne 7, 3) := by decide +kernel
theorem dX4_someWay_226 : decode cX4_someWay 226 = .ok (.iconst 1, 1) := by decide +kernel
theorem dX4_someWay_227 : decode cX4_someWay 227 = .ok (.goto 4, 3) := by decide +kernel
theorem dX4_someWay_230 : decode cX4_someWay 230 = .ok (.iconst 0, 1) := by decide +kernel
theorem dX4_someWay_231 : decode cX4_someWay 231 = .ok (.bastore, 1) := by decide +kernel
theorem dX4_someWay_232 : decode cX4_someWay 232 = .ok (.aload_n 0, 1) := by decide +kernel
theorem dX4_someWay_233 : decode cX4_someWay 233 = .ok (.getfield 47, 3) := by decide +kernel
theorem dX4_someWay_236 : decode cX4_someWay 236 = .ok (.iload_n 2, 1) := by decide +kernel
theorem dX4_someWay_237 : decode cX4_someWay 237 = .ok (.iaload, 1) := by decide +kernel
theorem dX4_someWay_238 : decode cX4_someWay 238 = .ok (.istore 7, 2) := by decide +kernel
theorem dX4_someWay_240 : decode cX4_someWay 240 = .ok (.iload 4, 2) := by decide +kernel
theorem dX4_someWay_242 : decode cX4_someWay 242 = .ok (.istore 8, 2) := by decide +kernel
theorem dX4_someWay_244 : decode cX4_someWay 244 = .ok (.iload 4, 2) := by decide +kernel
theorem dX4_someWay_246 : decode cX4_someWay 246 = .ok (.ifCond .ge 40, 3) := by decide +kernel
theorem dX4_someWay_249 : decode cX4_someWay 249 = .ok (.aload_n 0, 1) := by decide +kernel
theorem dX4_someWay_250 : decode cX4_someWay 250 = .ok (.iload_n 1, 1) := by decide +kernel
theorem dX4_someWay_251 : decode cX4_someWay 251 = .ok (.iload 7, 2) := by decide +kernel
theorem dX4_someWay_253 : decode cX4_someWay 253 = .ok (.iconst 1, 1) := by decide +kernel
theorem dX4_someWay_254 : decode cX4_someWay 254 = .ok (.iadd, 1) := by decide +kernel
theorem dX4_someWay_255 : decode cX4_someWay 255 = .ok (.invokevirtual 76, 3) := by decide +kernel
theorem dX4_someWay_258 : decode cX4_someWay 258 = .ok (.istore 7, 2) := by decide +kernel
theorem dX4_someWay_260 : decode cX4_someWay 260 = .ok (.iload 7, 2) := by decide +kernel
theorem dX4_someWay_262 : decode cX4_someWay 262 = .ok (.ifCond .ge 7, 3) := by decide +kernel
theorem dX4_someWay_265 : decode cX4_someWay 265 = .ok (.iconst (-1), 1) := by decide +kernel
theorem dX4_someWay_266 : decode cX4_someWay 266 = .ok (.goto 15, 3) := by decide +kernel
theorem dX4_someWay_269 : decode cX4_someWay 269 = .ok (.aload_n 0, 1) := by decide +kernel
theorem dX4_someWay_270 : decode cX4_someWay 270 = .ok (.getfield 29, 3) := by decide +kernel
theorem dX4_someWay_273 : decode cX4_someWay 273 = .ok (.aload_n 0, 1) := by decide +kernel
theorem dX4_someWay_274 : decode cX4_someWay 274 = .ok (.getfield 20, 3) := by decide +kernel
theorem dX4_someWay_277 : decode cX4_someWay 277 = .ok (.iload 7, 2) := by decide +kernel
theorem dX4_someWay_279 : decode cX4_someWay 279 = .ok (.iaload, 1) := by decide +kernel
theorem dX4_someWay_280 : decode cX4_someWay 280 = .ok (.iaload, 1) := by decide +kernel
theorem dX4_someWay_281 : decode cX4_someWay 281 = .ok (.istore 8, 2) := by decide +kernel
theorem dX4_someWay_283 : decode cX4_someWay 283 = .ok (.goto 11, 3) := by decide +kernel
theorem dX4_someWay_286 : decode cX4_someWay 286 = .ok (.aload_n 0, 1) := by decide +kernel
theorem dX4_someWay_287 : decode cX4_someWay 287 = .ok (.getfield 32, 3) := by decide +kernel
theorem dX4_someWay_290 : decode cX4_someWay 290 = .ok (.iload 4, 2) := by decide +kernel
theorem dX4_someWay_292 : decode cX4_someWay 292 = .ok (.iconst 1, 1) := by decide +kernel
theorem dX4_someWay_293 : decode cX4_someWay 293 = .ok (.bastore, 1) := by decide +kernel
theorem dX4_someWay_294 : decode cX4_someWay 294 = .ok (.iload 7, 2) := by decide +kernel
theorem dX4_someWay_296 : decode cX4_someWay 296 = .ok (.ifCond .ge 12, 3) := by decide +kernel
theorem dX4_someWay_299 : decode cX4_someWay 299 = .ok (.aload_n 0, 1) := by decide +kernel
theorem dX4_someWay_300 : decode cX4_someWay 300 = .ok (.invokevirtual 80, 3) := by decide +kernel
theorem dX4_someWay_303 : decode cX4_someWay 303 = .ok (.ifCond .eq 31, 3) := by decide +kernel
theorem dX4_someWay_306 : decode cX4_someWay 306 = .ok (.iconst 1, 1) := by decide +kernel
theorem dX4_someWay_307 : decode cX4_someWay 307 = .ok (.ireturn, 1) := by decide +kernel
theorem dX4_someWay_308 : decode cX4_someWay 308 = .ok (.iinc 2 1, 3) := by decide +kernel
theorem dX4_someWay_311 : decode cX4_someWay 311 = .ok (.aload_n 0, 1) := by decide +kernel
theorem dX4_someWay_312 : decode cX4_someWay 312 = .ok (.getfield 47, 3) := by decide +kernel
theorem dX4_someWay_315 : decode cX4_someWay 315 = .ok (.iload_n 2, 1) := by decide +kernel
theorem dX4_someWay_316 : decode cX4_someWay 316 = .ok (.iload 7, 2) := by decide +kernel
theorem dX4_someWay_318 : decode cX4_someWay 318 = .ok (.iastore, 1) := by decide +kernel
theorem dX4_someWay_319 : decode cX4_someWay 319 = .ok (.aload_n 0, 1) := by decide +kernel
theorem dX4_someWay_320 : decode cX4_someWay 320 = .ok (.getfield 50, 3) := by decide +kernel
theorem dX4_someWay_323 : decode cX4_someWay 323 = .ok (.iload_n 2, 1) := by decide +kernel
theorem dX4_someWay_324 : decode cX4_someWay 324 = .ok (.iload 8, 2) := by decide +kernel
theorem dX4_someWay_326 : decode cX4_someWay 326 = .ok (.iastore, 1) := by decide +kernel
theorem dX4_someWay_327 : decode cX4_someWay 327 = .ok (.aload_n 0, 1) := by decide +kernel
theorem dX4_someWay_328 : decode cX4_someWay 328 = .ok (.getfield 44, 3) := by decide +kernel
theorem dX4_someWay_331 : decode cX4_someWay 331 = .ok (.iload_n 2, 1) := by decide +kernel
theorem dX4_someWay_332 : decode cX4_someWay 332 = .ok (.iconst (-1), 1) := by decide +kernel
theorem dX4_someWay_333 : decode cX4_someWay 333 = .ok (.iastore, 1) := by decide +kernel
theorem dX4_someWay_334 : decode cX4_someWay 334 = .ok (.goto (-283), 3) := by decide +kernel
theorem dX4_someWay_337 : decode cX4_someWay 337 = .ok (.iconst 0, 1) := by decide +kernel
theorem dX4_someWay_338 : decode cX4_someWay 338 = .ok (.ireturn, 1) := by decide +kernel
theorem dX4_nextList_0 : decode cX4_nextList 0 = .ok (.iload_n 2, 1) := by decide +kernel
theorem dX4_nextList_1 : decode cX4_nextList 1 = .ok (.istore_n 3, 1) := by decide +kernel
theorem dX4_nextList_2 : decode cX4_nextList 2 = .ok (.iload_n 3, 1) := by decide +kernel
theorem dX4_nextList_3 : decode cX4_nextList 3 = .ok (.iconst 5, 1) := by decide +kernel
theorem dX4_nextList_4 : decode cX4_nextList 4 = .ok (.iload_n 1, 1) := by decide +kernel
theorem dX4_nextList_5 : decode cX4_nextList 5 = .ok (.imul, 1) := by decide +kernel
theorem dX4_nextList_6 : decode cX4_nextList 6 = .ok (.aload_n 0, 1) := by decide +kernel
theorem dX4_nextList_7 : decode cX4_nextList 7 = .ok (.getfield 16, 3) := by decide +kernel
theorem dX4_nextList_10 : decode cX4_nextList 10 = .ok (.iload_n 1, 1) := by decide +kernel
theorem dX4_nextList_11 : decode cX4_nextList 11 = .ok (.iaload, 1) := by decide +kernel
theorem dX4_nextList_12 : decode cX4_nextList 12 = .ok (.iadd, 1) := by decide +kernel
theorem dX4_nextList_13 : decode cX4_nextList 13 = .ok (.if_icmp .ge 28, 3) := by decide +kernel
theorem dX4_nextList_16 : decode cX4_nextList 16 = .ok (.aload_n 0, 1) := by decide +kernel
theorem dX4_nextList_17 : decode cX4_nextList 17 = .ok (.getfield 26, 3) := by decide +kernel
theorem dX4_nextList_20 : decode cX4_nextList 20 = .ok (.iload_n 3, 1) := by decide +kernel
theorem dX4_nextList_21 : decode cX4_nextList 21 = .ok (.baload, 1) := by decide +kernel
theorem dX4_nextList_22 : decode cX4_nextList 22 = .ok (.ifCond .eq 13, 3) := by decide +kernel
theorem dX4_nextList_25 : decode cX4_nextList 25 = .ok (.aload_n 0, 1) := by decide +kernel
theorem dX4_nextList_26 : decode cX4_nextList 26 = .ok (.iload_n 3, 1) := by decide +kernel
theorem dX4_nextList_27 : decode cX4_nextList 27 = .ok (.invokevirtual 73, 3) := by decide +kernel
theorem dX4_nextList_30 : decode cX4_nextList 30 = .ok (.ifCond .ne 5, 3) := by decide +kernel
theorem dX4_nextList_33 : decode cX4_nextList 33 = .ok (.iload_n 3, 1) := by decide +kernel
theorem dX4_nextList_34 : decode cX4_nextList 34 = .ok (.ireturn, 1) := by decide +kernel
theorem dX4_nextList_35 : decode cX4_nextList 35 = .ok (.iinc 3 1, 3) := by decide +kernel
theorem dX4_nextList_38 : decode cX4_nextList 38 = .ok (.goto (-36), 3) := by decide +kernel
theorem dX4_nextList_41 : decode cX4_nextList 41 = .ok (.iconst (-1), 1) := by decide +kernel
theorem dX4_nextList_42 : decode cX4_nextList 42 = .ok (.ireturn, 1) := by decide +kernel
theorem dX4_isLookedFor_0 : decode cX4_isLookedFor 0 = .ok (.aload_n 0, 1) := by decide +kernel
theorem dX4_isLookedFor_1 : decode cX4_isLookedFor 1 = .ok (.getfield 109, 3) := by decide +kernel
theorem dX4_isLookedFor_4 : decode cX4_isLookedFor 4 = .ok (.tableswitch 122 1 4 #[32, 45, 72, 99], 32) := by decide +kernel
theorem dX4_isLookedFor_36 : decode cX4_isLookedFor 36 = .ok (.aload_n 0, 1) := by decide +kernel
theorem dX4_isLookedFor_37 : decode cX4_isLookedFor 37 = .ok (.invokevirtual 112, 3) := by decide +kernel
theorem dX4_isLookedFor_40 : decode cX4_isLookedFor 40 = .ok (.ifCond .ne 7, 3) := by decide +kernel
theorem dX4_isLookedFor_43 : decode cX4_isLookedFor 43 = .ok (.iconst 1, 1) := by decide +kernel
theorem dX4_isLookedFor_44 : decode cX4_isLookedFor 44 = .ok (.goto 4, 3) := by decide +kernel
theorem dX4_isLookedFor_47 : decode cX4_isLookedFor 47 = .ok (.iconst 0, 1) := by decide +kernel
theorem dX4_isLookedFor_48 : decode cX4_isLookedFor 48 = .ok (.ireturn, 1) := by decide +kernel
theorem dX4_isLookedFor_49 : decode cX4_isLookedFor 49 = .ok (.aload_n 0, 1) := by decide +kernel
theorem dX4_isLookedFor_50 : decode cX4_isLookedFor 50 = .ok (.getfield 29, 3) := by decide +kernel
theorem dX4_isLookedFor_53 : decode cX4_isLookedFor 53 = .ok (.aload_n 0, 1) := by decide +kernel
theorem dX4_isLookedFor_54 : decode cX4_isLookedFor 54 = .ok (.getfield 115, 3) := by decide +kernel
theorem dX4_isLookedFor_57 : decode cX4_isLookedFor 57 = .ok (.iaload, 1) := by decide +kernel
theorem dX4_isLookedFor_58 : decode cX4_isLookedFor 58 = .ok (.aload_n 0, 1) := by decide +kernel
theorem dX4_isLookedFor_59 : decode cX4_isLookedFor 59 = .ok (.getfield 29, 3) := by decide +kernel
theorem dX4_isLookedFor_62 : decode cX4_isLookedFor 62 = .ok (.aload_n 0, 1) := by decide +kernel
theorem dX4_isLookedFor_63 : decode cX4_isLookedFor 63 = .ok (.getfield 118, 3) := by decide +kernel
theorem dX4_isLookedFor_66 : decode cX4_isLookedFor 66 = .ok (.iaload, 1) := by decide +kernel
theorem dX4_isLookedFor_67 : decode cX4_isLookedFor 67 = .ok (.if_icmp .eq 7, 3) := by decide +kernel
theorem dX4_isLookedFor_70 : decode cX4_isLookedFor 70 = .ok (.iconst 1, 1) := by decide +kernel
theorem dX4_isLookedFor_71 : decode cX4_isLookedFor 71 = .ok (.goto 4, 3) := by decide +kernel
theorem dX4_isLookedFor_74 : decode cX4_isLookedFor 74 = .ok (.iconst 0, 1) := by decide +kernel
theorem dX4_isLookedFor_75 : decode cX4_isLookedFor 75 = .ok (.ireturn, 1) := by decide +kernel
theorem dX4_isLookedFor_76 : decode cX4_isLookedFor 76 = .ok (.aload_n 0, 1) := by decide +kernel
theorem dX4_isLookedFor_77 : decode cX4_isLookedFor 77 = .ok (.getfield 29, 3) := by decide +kernel
theorem dX4_isLookedFor_80 : decode cX4_isLookedFor 80 = .ok (.aload_n 0, 1) := by decide +kernel
theorem dX4_isLookedFor_81 : decode cX4_isLookedFor 81 = .ok (.getfield 115, 3) := by decide +kernel
theorem dX4_isLookedFor_84 : decode cX4_isLookedFor 84 = .ok (.iaload, 1) := by decide +kernel
theorem dX4_isLookedFor_85 : decode cX4_isLookedFor 85 = .ok (.aload_n 0, 1) := by decide +kernel
theorem dX4_isLookedFor_86 : decode cX4_isLookedFor 86 = .ok (.getfield 29, 3) := by decide +kernel
theorem dX4_isLookedFor_89 : decode cX4_isLookedFor 89 = .ok (.aload_n 0, 1) := by decide +kernel
theorem dX4_isLookedFor_90 : decode cX4_isLookedFor 90 = .ok (.getfield 118, 3) := by decide +kernel
theorem dX4_isLookedFor_93 : decode cX4_isLookedFor 93 = .ok (.iaload, 1) := by decide +kernel
theorem dX4_isLookedFor_94 : decode cX4_isLookedFor 94 = .ok (.if_icmp .ne 7, 3) := by decide +kernel
theorem dX4_isLookedFor_97 : decode cX4_isLookedFor 97 = .ok (.iconst 1, 1) := by decide +kernel
theorem dX4_isLookedFor_98 : decode cX4_isLookedFor 98 = .ok (.goto 4, 3) := by decide +kernel
theorem dX4_isLookedFor_101 : decode cX4_isLookedFor 101 = .ok (.iconst 0, 1) := by decide +kernel
theorem dX4_isLookedFor_102 : decode cX4_isLookedFor 102 = .ok (.ireturn, 1) := by decide +kernel
theorem dX4_isLookedFor_103 : decode cX4_isLookedFor 103 = .ok (.aload_n 0, 1) := by decide +kernel
theorem dX4_isLookedFor_104 : decode cX4_isLookedFor 104 = .ok (.getfield 32, 3) := by decide +kernel
theorem dX4_isLookedFor_107 : decode cX4_isLookedFor 107 = .ok (.aload_n 0, 1) := by decide +kernel
theorem dX4_isLookedFor_108 : decode cX4_isLookedFor 108 = .ok (.getfield 29, 3) := by decide +kernel
theorem dX4_isLookedFor_111 : decode cX4_isLookedFor 111 = .ok (.aload_n 0, 1) := by decide +kernel
theorem dX4_isLookedFor_112 : decode cX4_isLookedFor 112 = .ok (.getfield 115, 3) := by decide +kernel
theorem dX4_isLookedFor_115 : decode cX4_isLookedFor 115 = .ok (.iaload, 1) := by decide +kernel
theorem dX4_isLookedFor_116 : decode cX4_isLookedFor 116 = .ok (.baload, 1) := by decide +kernel
theorem dX4_isLookedFor_117 : decode cX4_isLookedFor 117 = .ok (.ifCond .ne 7, 3) := by decide +kernel
theorem dX4_isLookedFor_120 : decode cX4_isLookedFor 120 = .ok (.iconst 1, 1) := by decide +kernel
theorem dX4_isLookedFor_121 : decode cX4_isLookedFor 121 = .ok (.goto 4, 3) := by decide +kernel
theorem dX4_isLookedFor_124 : decode cX4_isLookedFor 124 = .ok (.iconst 0, 1) := by decide +kernel
theorem dX4_isLookedFor_125 : decode cX4_isLookedFor 125 = .ok (.ireturn, 1) := by decide +kernel
theorem dX4_isLookedFor_126 : decode cX4_isLookedFor 126 = .ok (.iconst 1, 1) := by decide +kernel
theorem dX4_isLookedFor_127 : decode cX4_isLookedFor 127 = .ok (.ireturn, 1) := by decide +kernel
theorem dX4_rightTrue_0 : decode cX4_rightTrue 0 = .ok (.aload_n 0, 1) := by decide +kernel
theorem dX4_rightTrue_1 : decode cX4_rightTrue 1 = .ok (.iconst 1, 1) := by decide +kernel
theorem dX4_rightTrue_2 : decode cX4_rightTrue 2 = .ok (.invokevirtual 91, 3) := by decide +kernel
theorem dX4_rightTrue_5 : decode cX4_rightTrue 5 = .ok (.ifCond .ne 5, 3) := by decide +kernel
theorem dX4_rightTrue_8 : decode cX4_rightTrue 8 = .ok (.iconst 0, 1) := by decide +kernel
theorem dX4_rightTrue_9 : decode cX4_rightTrue 9 = .ok (.ireturn, 1) := by decide +kernel
theorem dX4_rightTrue_10 : decode cX4_rightTrue 10 = .ok (.iconst 0, 1) := by decide +kernel
theorem dX4_rightTrue_11 : decode cX4_rightTrue 11 = .ok (.istore_n 1, 1) := by decide +kernel
theorem dX4_rightTrue_12 : decode cX4_rightTrue 12 = .ok (.iload_n 1, 1) := by decide +kernel
theorem dX4_rightTrue_13 : decode cX4_rightTrue 13 = .ok (.bipush 6, 2) := by decide +kernel
theorem dX4_rightTrue_15 : decode cX4_rightTrue 15 = .ok (.if_icmp .ge 16, 3) := by decide +kernel
theorem dX4_rightTrue_18 : decode cX4_rightTrue 18 = .ok (.aload_n 0, 1) := by decide +kernel
theorem dX4_rightTrue_19 : decode cX4_rightTrue 19 = .ok (.getfield 41, 3) := by decide +kernel
theorem dX4_rightTrue_22 : decode cX4_rightTrue 22 = .ok (.iload_n 1, 1) := by decide +kernel
theorem dX4_rightTrue_23 : decode cX4_rightTrue 23 = .ok (.iconst 0, 1) := by decide +kernel
theorem dX4_rightTrue_24 : decode cX4_rightTrue 24 = .ok (.bastore, 1) := by decide +kernel
theorem dX4_rightTrue_25 : decode cX4_rightTrue 25 = .ok (.iinc 1 1, 3) := by decide +kernel
theorem dX4_rightTrue_28 : decode cX4_rightTrue 28 = .ok (.goto (-16), 3) := by decide +kernel
theorem dX4_rightTrue_31 : decode cX4_rightTrue 31 = .ok (.iconst 5, 1) := by decide +kernel
theorem dX4_rightTrue_32 : decode cX4_rightTrue 32 = .ok (.istore_n 1, 1) := by decide +kernel
theorem dX4_rightTrue_33 : decode cX4_rightTrue 33 = .ok (.iload_n 1, 1) := by decide +kernel
theorem dX4_rightTrue_34 : decode cX4_rightTrue 34 = .ok (.iconst 5, 1) := by decide +kernel
theorem dX4_rightTrue_35 : decode cX4_rightTrue 35 = .ok (.aload_n 0, 1) := by decide +kernel
theorem dX4_rightTrue_36 : decode cX4_rightTrue 36 = .ok (.getfield 16, 3) := by decide +kernel
theorem dX4_rightTrue_39 : decode cX4_rightTrue 39 = .ok (.iconst 1, 1) := by decide +kernel
theorem dX4_rightTrue_40 : decode cX4_rightTrue 40 = .ok (.iaload, 1) := by decide +kernel
theorem dX4_rightTrue_41 : decode cX4_rightTrue 41 = .ok (.iadd, 1) := by decide +kernel
theorem dX4_rightTrue_42 : decode cX4_rightTrue 42 = .ok (.if_icmp .ge 19, 3) := by decide +kernel
theorem dX4_rightTrue_45 : decode cX4_rightTrue 45 = .ok (.aload_n 0, 1) := by decide +kernel
theorem dX4_rightTrue_46 : decode cX4_rightTrue 46 = .ok (.iload_n 1, 1) := by decide +kernel
theorem dX4_rightTrue_47 : decode cX4_rightTrue 47 = .ok (.invokevirtual 103, 3) := by decide +kernel
theorem dX4_rightTrue_50 : decode cX4_rightTrue 50 = .ok (.ifCond .ne 5, 3) := by decide +kernel
theorem dX4_rightTrue_53 : decode cX4_rightTrue 53 = .ok (.iconst 0, 1) := by decide +kernel
theorem dX4_rightTrue_54 : decode cX4_rightTrue 54 = .ok (.ireturn, 1) := by decide +kernel
theorem dX4_rightTrue_55 : decode cX4_rightTrue 55 = .ok (.iinc 1 1, 3) := by decide +kernel
theorem dX4_rightTrue_58 : decode cX4_rightTrue 58 = .ok (.goto (-25), 3) := by decide +kernel
theorem dX4_rightTrue_61 : decode cX4_rightTrue 61 = .ok (.iconst 0, 1) := by decide +kernel
theorem dX4_rightTrue_62 : decode cX4_rightTrue 62 = .ok (.istore_n 1, 1) := by decide +kernel
theorem dX4_rightTrue_63 : decode cX4_rightTrue 63 = .ok (.iload_n 1, 1) := by decide +kernel
theorem dX4_rightTrue_64 : decode cX4_rightTrue 64 = .ok (.aload_n 0, 1) := by decide +kernel
theorem dX4_rightTrue_65 : decode cX4_rightTrue 65 = .ok (.getfield 16, 3) := by decide +kernel
theorem dX4_rightTrue_68 : decode cX4_rightTrue 68 = .ok (.iconst 0, 1) := by decide +kernel
theorem dX4_rightTrue_69 : decode cX4_rightTrue 69 = .ok (.iaload, 1) := by decide +kernel
theorem dX4_rightTrue_70 : decode cX4_rightTrue 70 = .ok (.if_icmp .ge 31, 3) := by decide +kernel
theorem dX4_rightTrue_73 : decode cX4_rightTrue 73 = .ok (.aload_n 0, 1) := by decide +kernel
theorem dX4_rightTrue_74 : decode cX4_rightTrue 74 = .ok (.getfield 106, 3) := by decide +kernel
theorem dX4_rightTrue_77 : decode cX4_rightTrue 77 = .ok (.iload_n 1, 1) := by decide +kernel
theorem dX4_rightTrue_78 : decode cX4_rightTrue 78 = .ok (.ishr, 1) := by decide +kernel
theorem dX4_rightTrue_79 : decode cX4_rightTrue 79 = .ok (.iconst 1, 1) := by decide +kernel
theorem dX4_rightTrue_80 : decode cX4_rightTrue 80 = .ok (.iand, 1) := by decide +kernel
theorem dX4_rightTrue_81 : decode cX4_rightTrue 81 = .ok (.iconst 1, 1) := by decide +kernel
theorem dX4_rightTrue_82 : decode cX4_rightTrue 82 = .ok (.if_icmp .ne 13, 3) := by decide +kernel
theorem dX4_rightTrue_85 : decode cX4_rightTrue 85 = .ok (.aload_n 0, 1) := by decide +kernel
theorem dX4_rightTrue_86 : decode cX4_rightTrue 86 = .ok (.iload_n 1, 1) := by decide +kernel
theorem dX4_rightTrue_87 : decode cX4_rightTrue 87 = .ok (.invokevirtual 103, 3) := by decide +kernel
theorem dX4_rightTrue_90 : decode cX4_rightTrue 90 = .ok (.ifCond .ne 5, 3) := by decide +kernel
theorem dX4_rightTrue_93 : decode cX4_rightTrue 93 = .ok (.iconst 0, 1) := by decide +kernel
theorem dX4_rightTrue_94 : decode cX4_rightTrue 94 = .ok (.ireturn, 1) := by decide +kernel
theorem dX4_rightTrue_95 : decode cX4_rightTrue 95 = .ok (.iinc 1 1, 3) := by decide +kernel
theorem dX4_rightTrue_98 : decode cX4_rightTrue 98 = .ok (.goto (-35), 3) := by decide +kernel
theorem dX4_rightTrue_101 : decode cX4_rightTrue 101 = .ok (.iconst 0, 1) := by decide +kernel
theorem dX4_rightTrue_102 : decode cX4_rightTrue 102 = .ok (.istore_n 1, 1) := by decide +kernel
theorem dX4_rightTrue_103 : decode cX4_rightTrue 103 = .ok (.iload_n 1, 1) := by decide +kernel
theorem dX4_rightTrue_104 : decode cX4_rightTrue 104 = .ok (.bipush 6, 2) := by decide +kernel
theorem dX4_rightTrue_106 : decode cX4_rightTrue 106 = .ok (.if_icmp .ge 29, 3) := by decide +kernel
theorem dX4_rightTrue_109 : decode cX4_rightTrue 109 = .ok (.aload_n 0, 1) := by decide +kernel
theorem dX4_rightTrue_110 : decode cX4_rightTrue 110 = .ok (.getfield 32, 3) := by decide +kernel
theorem dX4_rightTrue_113 : decode cX4_rightTrue 113 = .ok (.iload_n 1, 1) := by decide +kernel
theorem dX4_rightTrue_114 : decode cX4_rightTrue 114 = .ok (.baload, 1) := by decide +kernel
theorem dX4_rightTrue_115 : decode cX4_rightTrue 115 = .ok (.ifCond .eq 14, 3) := by decide +kernel
theorem dX4_rightTrue_118 : decode cX4_rightTrue 118 = .ok (.aload_n 0, 1) := by decide +kernel
theorem dX4_rightTrue_119 : decode cX4_rightTrue 119 = .ok (.getfield 41, 3) := by decide +kernel
theorem dX4_rightTrue_122 : decode cX4_rightTrue 122 = .ok (.iload_n 1, 1) := by decide +kernel
theorem dX4_rightTrue_123 : decode cX4_rightTrue 123 = .ok (.baload, 1) := by decide +kernel
theorem dX4_rightTrue_124 : decode cX4_rightTrue 124 = .ok (.ifCond .ne 5, 3) := by decide +kernel
theorem dX4_rightTrue_127 : decode cX4_rightTrue 127 = .ok (.iconst 0, 1) := by decide +kernel
theorem dX4_rightTrue_128 : decode cX4_rightTrue 128 = .ok (.ireturn, 1) := by decide +kernel
theorem dX4_rightTrue_129 : decode cX4_rightTrue 129 = .ok (.iinc 1 1, 3) := by decide +kernel
theorem dX4_rightTrue_132 : decode cX4_rightTrue 132 = .ok (.goto (-29), 3) := by decide +kernel
theorem dX4_rightTrue_135 : decode cX4_rightTrue 135 = .ok (.iconst 1, 1) := by decide +kernel
theorem dX4_rightTrue_136 : decode cX4_rightTrue 136 = .ok (.ireturn, 1) := by decide +kernel

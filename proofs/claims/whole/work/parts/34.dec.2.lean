/-! decoded instructions -/
theorem dX4_takes_0 : decode cX4_takes 0 = .ok (.aload_n 0, 1) := by decide +kernel
theorem dX4_takes_1 : decode cX4_takes 1 = .ok (.getfield 29, 3) := by decide +kernel
theorem dX4_takes_4 : decode cX4_takes 4 = .ok (.aload_n 0, 1) := by decide +kernel
theorem dX4_takes_5 : decode cX4_takes 5 = .ok (.getfield 20, 3) := by decide +kernel
theorem dX4_takes_8 : decode cX4_takes 8 = .ok (.iload_n 1, 1) := by decide +kernel
theorem dX4_takes_9 : decode cX4_takes 9 = .ok (.iaload, 1) := by decide +kernel
theorem dX4_takes_10 : decode cX4_takes 10 = .ok (.iaload, 1) := by decide +kernel
theorem dX4_takes_11 : decode cX4_takes 11 = .ok (.istore_n 2, 1) := by decide +kernel
theorem dX4_takes_12 : decode cX4_takes 12 = .ok (.aload_n 0, 1) := by decide +kernel
theorem dX4_takes_13 : decode cX4_takes 13 = .ok (.getfield 29, 3) := by decide +kernel
theorem dX4_takes_16 : decode cX4_takes 16 = .ok (.aload_n 0, 1) := by decide +kernel
theorem dX4_takes_17 : decode cX4_takes 17 = .ok (.getfield 23, 3) := by decide +kernel
theorem dX4_takes_20 : decode cX4_takes 20 = .ok (.iload_n 1, 1) := by decide +kernel
theorem dX4_takes_21 : decode cX4_takes 21 = .ok (.iaload, 1) := by decide +kernel
theorem dX4_takes_22 : decode cX4_takes 22 = .ok (.iaload, 1) := by decide +kernel
theorem dX4_takes_23 : decode cX4_takes 23 = .ok (.istore_n 3, 1) := by decide +kernel
theorem dX4_takes_24 : decode cX4_takes 24 = .ok (.aload_n 0, 1) := by decide +kernel
theorem dX4_takes_25 : decode cX4_takes 25 = .ok (.getfield 26, 3) := by decide +kernel
theorem dX4_takes_28 : decode cX4_takes 28 = .ok (.iload_n 1, 1) := by decide +kernel
theorem dX4_takes_29 : decode cX4_takes 29 = .ok (.baload, 1) := by decide +kernel
theorem dX4_takes_30 : decode cX4_takes 30 = .ok (.ifCond .ne 51, 3) := by decide +kernel
theorem dX4_takes_33 : decode cX4_takes 33 = .ok (.aload_n 0, 1) := by decide +kernel
theorem dX4_takes_34 : decode cX4_takes 34 = .ok (.getfield 32, 3) := by decide +kernel
theorem dX4_takes_37 : decode cX4_takes 37 = .ok (.iload_n 2, 1) := by decide +kernel
theorem dX4_takes_38 : decode cX4_takes 38 = .ok (.baload, 1) := by decide +kernel
theorem dX4_takes_39 : decode cX4_takes 39 = .ok (.ifCond .eq 31, 3) := by decide +kernel
theorem dX4_takes_42 : decode cX4_takes 42 = .ok (.aload_n 0, 1) := by decide +kernel
theorem dX4_takes_43 : decode cX4_takes 43 = .ok (.getfield 41, 3) := by decide +kernel
theorem dX4_takes_46 : decode cX4_takes 46 = .ok (.iload_n 2, 1) := by decide +kernel
theorem dX4_takes_47 : decode cX4_takes 47 = .ok (.baload, 1) := by decide +kernel
theorem dX4_takes_48 : decode cX4_takes 48 = .ok (.ifCond .ne 22, 3) := by decide +kernel
theorem dX4_takes_51 : decode cX4_takes 51 = .ok (.aload_n 0, 1) := by decide +kernel
theorem dX4_takes_52 : decode cX4_takes 52 = .ok (.getfield 38, 3) := by decide +kernel
theorem dX4_takes_55 : decode cX4_takes 55 = .ok (.iload_n 2, 1) := by decide +kernel
theorem dX4_takes_56 : decode cX4_takes 56 = .ok (.baload, 1) := by decide +kernel
theorem dX4_takes_57 : decode cX4_takes 57 = .ok (.ifCond .ne 13, 3) := by decide +kernel
theorem dX4_takes_60 : decode cX4_takes 60 = .ok (.aload_n 0, 1) := by decide +kernel
theorem dX4_takes_61 : decode cX4_takes 61 = .ok (.getfield 35, 3) := by decide +kernel
theorem dX4_takes_64 : decode cX4_takes 64 = .ok (.iload_n 2, 1) := by decide +kernel
theorem dX4_takes_65 : decode cX4_takes 65 = .ok (.iaload, 1) := by decide +kernel
theorem dX4_takes_66 : decode cX4_takes 66 = .ok (.iload_n 3, 1) := by decide +kernel
theorem dX4_takes_67 : decode cX4_takes 67 = .ok (.if_icmp .eq 5, 3) := by decide +kernel
theorem dX4_takes_70 : decode cX4_takes 70 = .ok (.iconst 0, 1) := by decide +kernel
theorem dX4_takes_71 : decode cX4_takes 71 = .ok (.ireturn, 1) := by decide +kernel
theorem dX4_takes_72 : decode cX4_takes 72 = .ok (.aload_n 0, 1) := by decide +kernel
theorem dX4_takes_73 : decode cX4_takes 73 = .ok (.getfield 41, 3) := by decide +kernel
theorem dX4_takes_76 : decode cX4_takes 76 = .ok (.iload_n 2, 1) := by decide +kernel
theorem dX4_takes_77 : decode cX4_takes 77 = .ok (.iconst 1, 1) := by decide +kernel
theorem dX4_takes_78 : decode cX4_takes 78 = .ok (.bastore, 1) := by decide +kernel
theorem dX4_takes_79 : decode cX4_takes 79 = .ok (.iconst 1, 1) := by decide +kernel
theorem dX4_takes_80 : decode cX4_takes 80 = .ok (.ireturn, 1) := by decide +kernel
theorem dX4_takes_81 : decode cX4_takes 81 = .ok (.iload_n 2, 1) := by decide +kernel
theorem dX4_takes_82 : decode cX4_takes 82 = .ok (.iload_n 3, 1) := by decide +kernel
theorem dX4_takes_83 : decode cX4_takes 83 = .ok (.if_icmp .eq 40, 3) := by decide +kernel
theorem dX4_takes_86 : decode cX4_takes 86 = .ok (.aload_n 0, 1) := by decide +kernel
theorem dX4_takes_87 : decode cX4_takes 87 = .ok (.getfield 32, 3) := by decide +kernel
theorem dX4_takes_90 : decode cX4_takes 90 = .ok (.iload_n 2, 1) := by decide +kernel
theorem dX4_takes_91 : decode cX4_takes 91 = .ok (.baload, 1) := by decide +kernel
theorem dX4_takes_92 : decode cX4_takes 92 = .ok (.ifCond .eq 12, 3) := by decide +kernel
theorem dX4_takes_95 : decode cX4_takes 95 = .ok (.aload_n 0, 1) := by decide +kernel
theorem dX4_takes_96 : decode cX4_takes 96 = .ok (.getfield 41, 3) := by decide +kernel
theorem dX4_takes_99 : decode cX4_takes 99 = .ok (.iload_n 2, 1) := by decide +kernel
theorem dX4_takes_100 : decode cX4_takes 100 = .ok (.baload, 1) := by decide +kernel
theorem dX4_takes_101 : decode cX4_takes 101 = .ok (.ifCond .eq 5, 3) := by decide +kernel
theorem dX4_takes_104 : decode cX4_takes 104 = .ok (.iconst 0, 1) := by decide +kernel
theorem dX4_takes_105 : decode cX4_takes 105 = .ok (.ireturn, 1) := by decide +kernel
theorem dX4_takes_106 : decode cX4_takes 106 = .ok (.aload_n 0, 1) := by decide +kernel
theorem dX4_takes_107 : decode cX4_takes 107 = .ok (.getfield 41, 3) := by decide +kernel
theorem dX4_takes_110 : decode cX4_takes 110 = .ok (.iload_n 2, 1) := by decide +kernel
theorem dX4_takes_111 : decode cX4_takes 111 = .ok (.iconst 1, 1) := by decide +kernel
theorem dX4_takes_112 : decode cX4_takes 112 = .ok (.bastore, 1) := by decide +kernel
theorem dX4_takes_113 : decode cX4_takes 113 = .ok (.aload_n 0, 1) := by decide +kernel
theorem dX4_takes_114 : decode cX4_takes 114 = .ok (.getfield 35, 3) := by decide +kernel
theorem dX4_takes_117 : decode cX4_takes 117 = .ok (.iload_n 2, 1) := by decide +kernel
theorem dX4_takes_118 : decode cX4_takes 118 = .ok (.iaload, 1) := by decide +kernel
theorem dX4_takes_119 : decode cX4_takes 119 = .ok (.istore_n 2, 1) := by decide +kernel
theorem dX4_takes_120 : decode cX4_takes 120 = .ok (.goto (-39), 3) := by decide +kernel
theorem dX4_takes_123 : decode cX4_takes 123 = .ok (.iconst 1, 1) := by decide +kernel
theorem dX4_takes_124 : decode cX4_takes 124 = .ok (.ireturn, 1) := by decide +kernel
theorem dX4_isFree_0 : decode cX4_isFree 0 = .ok (.aload_n 0, 1) := by decide +kernel
theorem dX4_isFree_1 : decode cX4_isFree 1 = .ok (.iload_n 1, 1) := by decide +kernel
theorem dX4_isFree_2 : decode cX4_isFree 2 = .ok (.invokevirtual 88, 3) := by decide +kernel
theorem dX4_isFree_5 : decode cX4_isFree 5 = .ok (.ifCond .eq 31, 3) := by decide +kernel
theorem dX4_isFree_8 : decode cX4_isFree 8 = .ok (.iload_n 1, 1) := by decide +kernel
theorem dX4_isFree_9 : decode cX4_isFree 9 = .ok (.iload_n 2, 1) := by decide +kernel
theorem dX4_isFree_10 : decode cX4_isFree 10 = .ok (.if_icmp .eq 26, 3) := by decide +kernel
theorem dX4_isFree_13 : decode cX4_isFree 13 = .ok (.iload_n 1, 1) := by decide +kernel
theorem dX4_isFree_14 : decode cX4_isFree 14 = .ok (.aload_n 0, 1) := by decide +kernel
theorem dX4_isFree_15 : decode cX4_isFree 15 = .ok (.getfield 29, 3) := by decide +kernel
theorem dX4_isFree_18 : decode cX4_isFree 18 = .ok (.iconst 5, 1) := by decide +kernel
theorem dX4_isFree_19 : decode cX4_isFree 19 = .ok (.iaload, 1) := by decide +kernel
theorem dX4_isFree_20 : decode cX4_isFree 20 = .ok (.if_icmp .eq 16, 3) := by decide +kernel
theorem dX4_isFree_23 : decode cX4_isFree 23 = .ok (.aload_n 0, 1) := by decide +kernel
theorem dX4_isFree_24 : decode cX4_isFree 24 = .ok (.getfield 32, 3) := by decide +kernel
theorem dX4_isFree_27 : decode cX4_isFree 27 = .ok (.iload_n 1, 1) := by decide +kernel
theorem dX4_isFree_28 : decode cX4_isFree 28 = .ok (.baload, 1) := by decide +kernel
theorem dX4_isFree_29 : decode cX4_isFree 29 = .ok (.ifCond .ne 7, 3) := by decide +kernel
theorem dX4_isFree_32 : decode cX4_isFree 32 = .ok (.iconst 1, 1) := by decide +kernel
theorem dX4_isFree_33 : decode cX4_isFree 33 = .ok (.goto 4, 3) := by decide +kernel
theorem dX4_isFree_36 : decode cX4_isFree 36 = .ok (.iconst 0, 1) := by decide +kernel
theorem dX4_isFree_37 : decode cX4_isFree 37 = .ok (.ireturn, 1) := by decide +kernel
theorem dX4_isGroup_0 : decode cX4_isGroup 0 = .ok (.iconst 0, 1) := by decide +kernel
theorem dX4_isGroup_1 : decode cX4_isGroup 1 = .ok (.istore_n 2, 1) := by decide +kernel
theorem dX4_isGroup_2 : decode cX4_isGroup 2 = .ok (.iconst 0, 1) := by decide +kernel
theorem dX4_isGroup_3 : decode cX4_isGroup 3 = .ok (.istore_n 3, 1) := by decide +kernel
theorem dX4_isGroup_4 : decode cX4_isGroup 4 = .ok (.iload_n 3, 1) := by decide +kernel
theorem dX4_isGroup_5 : decode cX4_isGroup 5 = .ok (.bipush 6, 2) := by decide +kernel
theorem dX4_isGroup_7 : decode cX4_isGroup 7 = .ok (.if_icmp .ge 29, 3) := by decide +kernel
theorem dX4_isGroup_10 : decode cX4_isGroup 10 = .ok (.iload_n 2, 1) := by decide +kernel
theorem dX4_isGroup_11 : decode cX4_isGroup 11 = .ok (.ifCond .ne 13, 3) := by decide +kernel
theorem dX4_isGroup_14 : decode cX4_isGroup 14 = .ok (.aload_n 0, 1) := by decide +kernel
theorem dX4_isGroup_15 : decode cX4_isGroup 15 = .ok (.getfield 29, 3) := by decide +kernel
theorem dX4_isGroup_18 : decode cX4_isGroup 18 = .ok (.iload_n 3, 1) := by decide +kernel
theorem dX4_isGroup_19 : decode cX4_isGroup 19 = .ok (.iaload, 1) := by decide +kernel
theorem dX4_isGroup_20 : decode cX4_isGroup 20 = .ok (.iload_n 1, 1) := by decide +kernel
theorem dX4_isGroup_21 : decode cX4_isGroup 21 = .ok (.if_icmp .ne 7, 3) := by decide +kernel
theorem dX4_isGroup_24 : decode cX4_isGroup 24 = .ok (.iconst 1, 1) := by decide +kernel
theorem dX4_isGroup_25 : decode cX4_isGroup 25 = .ok (.goto 4, 3) := by decide +kernel
theorem dX4_isGroup_28 : decode cX4_isGroup 28 = .ok (.iconst 0, 1) := by decide +kernel
theorem dX4_isGroup_29 : decode cX4_isGroup 29 = .ok (.istore_n 2, 1) := by decide +kernel
theorem dX4_isGroup_30 : decode cX4_isGroup 30 = .ok (.iinc 3 1, 3) := by decide +kernel
theorem dX4_isGroup_33 : decode cX4_isGroup 33 = .ok (.goto (-29), 3) := by decide +kernel
theorem dX4_isGroup_36 : decode cX4_isGroup 36 = .ok (.iload_n 2, 1) := by decide +kernel
theorem dX4_isGroup_37 : decode cX4_isGroup 37 = .ok (.ireturn, 1) := by decide +kernel
theorem dX4_nextGroups_0 : decode cX4_nextGroups 0 = .ok (.iconst 5, 1) := by decide +kernel
theorem dX4_nextGroups_1 : decode cX4_nextGroups 1 = .ok (.istore_n 1, 1) := by decide +kernel
theorem dX4_nextGroups_2 : decode cX4_nextGroups 2 = .ok (.iload_n 1, 1) := by decide +kernel
theorem dX4_nextGroups_3 : decode cX4_nextGroups 3 = .ok (.ifCond .le 90, 3) := by decide +kernel
theorem dX4_nextGroups_6 : decode cX4_nextGroups 6 = .ok (.iconst 0, 1) := by decide +kernel
theorem dX4_nextGroups_7 : decode cX4_nextGroups 7 = .ok (.istore_n 2, 1) := by decide +kernel
theorem dX4_nextGroups_8 : decode cX4_nextGroups 8 = .ok (.iconst 0, 1) := by decide +kernel
theorem dX4_nextGroups_9 : decode cX4_nextGroups 9 = .ok (.istore_n 3, 1) := by decide +kernel
theorem dX4_nextGroups_10 : decode cX4_nextGroups 10 = .ok (.iload_n 3, 1) := by decide +kernel
theorem dX4_nextGroups_11 : decode cX4_nextGroups 11 = .ok (.iload_n 1, 1) := by decide +kernel
theorem dX4_nextGroups_12 : decode cX4_nextGroups 12 = .ok (.if_icmp .ge 30, 3) := by decide +kernel
theorem dX4_nextGroups_15 : decode cX4_nextGroups 15 = .ok (.aload_n 0, 1) := by decide +kernel
theorem dX4_nextGroups_16 : decode cX4_nextGroups 16 = .ok (.getfield 29, 3) := by decide +kernel
theorem dX4_nextGroups_19 : decode cX4_nextGroups 19 = .ok (.iload_n 3, 1) := by decide +kernel
theorem dX4_nextGroups_20 : decode cX4_nextGroups 20 = .ok (.iaload, 1) := by decide +kernel
theorem dX4_nextGroups_21 : decode cX4_nextGroups 21 = .ok (.iload_n 2, 1) := by decide +kernel
theorem dX4_nextGroups_22 : decode cX4_nextGroups 22 = .ok (.if_icmp .le 12, 3) := by decide +kernel
theorem dX4_nextGroups_25 : decode cX4_nextGroups 25 = .ok (.aload_n 0, 1) := by decide +kernel
theorem dX4_nextGroups_26 : decode cX4_nextGroups 26 = .ok (.getfield 29, 3) := by decide +kernel
theorem dX4_nextGroups_29 : decode cX4_nextGroups 29 = .ok (.iload_n 3, 1) := by decide +kernel
theorem dX4_nextGroups_30 : decode cX4_nextGroups 30 = .ok (.iaload, 1) := by decide +kernel
theorem dX4_nextGroups_31 : decode cX4_nextGroups 31 = .ok (.goto 4, 3) := by decide +kernel
theorem dX4_nextGroups_34 : decode cX4_nextGroups 34 = .ok (.iload_n 2, 1) := by decide +kernel
theorem dX4_nextGroups_35 : decode cX4_nextGroups 35 = .ok (.istore_n 2, 1) := by decide +kernel
theorem dX4_nextGroups_36 : decode cX4_nextGroups 36 = .ok (.iinc 3 1, 3) := by decide +kernel
theorem dX4_nextGroups_39 : decode cX4_nextGroups 39 = .ok (.goto (-29), 3) := by decide +kernel
theorem dX4_nextGroups_42 : decode cX4_nextGroups 42 = .ok (.aload_n 0, 1) := by decide +kernel
theorem dX4_nextGroups_43 : decode cX4_nextGroups 43 = .ok (.getfield 29, 3) := by decide +kernel
theorem dX4_nextGroups_46 : decode cX4_nextGroups 46 = .ok (.iload_n 1, 1) := by decide +kernel
theorem dX4_nextGroups_47 : decode cX4_nextGroups 47 = .ok (.iaload, 1) := by decide +kernel
theorem dX4_nextGroups_48 : decode cX4_nextGroups 48 = .ok (.iload_n 2, 1) := by decide +kernel
theorem dX4_nextGroups_49 : decode cX4_nextGroups 49 = .ok (.if_icmp .gt 38, 3) := by decide +kernel
theorem dX4_nextGroups_52 : decode cX4_nextGroups 52 = .ok (.aload_n 0, 1) := by decide +kernel
theorem dX4_nextGroups_53 : decode cX4_nextGroups 53 = .ok (.getfield 29, 3) := by decide +kernel
theorem dX4_nextGroups_56 : decode cX4_nextGroups 56 = .ok (.iload_n 1, 1) := by decide +kernel
theorem dX4_nextGroups_57 : decode cX4_nextGroups 57 = .ok (.dup2, 1) := by decide +kernel
theorem dX4_nextGroups_58 : decode cX4_nextGroups 58 = .ok (.iaload, 1) := by decide +kernel
theorem dX4_nextGroups_59 : decode cX4_nextGroups 59 = .ok (.iconst 1, 1) := by decide +kernel
theorem dX4_nextGroups_60 : decode cX4_nextGroups 60 = .ok (.iadd, 1) := by decide +kernel
theorem dX4_nextGroups_61 : decode cX4_nextGroups 61 = .ok (.iastore, 1) := by decide +kernel
theorem dX4_nextGroups_62 : decode cX4_nextGroups 62 = .ok (.iload_n 1, 1) := by decide +kernel
theorem dX4_nextGroups_63 : decode cX4_nextGroups 63 = .ok (.iconst 1, 1) := by decide +kernel
theorem dX4_nextGroups_64 : decode cX4_nextGroups 64 = .ok (.iadd, 1) := by decide +kernel
theorem dX4_nextGroups_65 : decode cX4_nextGroups 65 = .ok (.istore_n 3, 1) := by decide +kernel
theorem dX4_nextGroups_66 : decode cX4_nextGroups 66 = .ok (.iload_n 3, 1) := by decide +kernel
theorem dX4_nextGroups_67 : decode cX4_nextGroups 67 = .ok (.bipush 6, 2) := by decide +kernel
theorem dX4_nextGroups_69 : decode cX4_nextGroups 69 = .ok (.if_icmp .ge 16, 3) := by decide +kernel
theorem dX4_nextGroups_72 : decode cX4_nextGroups 72 = .ok (.aload_n 0, 1) := by decide +kernel
theorem dX4_nextGroups_73 : decode cX4_nextGroups 73 = .ok (.getfield 29, 3) := by decide +kernel
theorem dX4_nextGroups_76 : decode cX4_nextGroups 76 = .ok (.iload_n 3, 1) := by decide +kernel
theorem dX4_nextGroups_77 : decode cX4_nextGroups 77 = .ok (.iconst 0, 1) := by decide +kernel
theorem dX4_nextGroups_78 : decode cX4_nextGroups 78 = .ok (.iastore, 1) := by decide +kernel
theorem dX4_nextGroups_79 : decode cX4_nextGroups 79 = .ok (.iinc 3 1, 3) := by decide +kernel
theorem dX4_nextGroups_82 : decode cX4_nextGroups 82 = .ok (.goto (-16), 3) := by decide +kernel
theorem dX4_nextGroups_85 : decode cX4_nextGroups 85 = .ok (.iconst 1, 1) := by decide +kernel
theorem dX4_nextGroups_86 : decode cX4_nextGroups 86 = .ok (.ireturn, 1) := by decide +kernel
theorem dX4_nextGroups_87 : decode cX4_nextGroups 87 = .ok (.iinc 1 (-1), 3) := by decide +kernel
theorem dX4_nextGroups_90 : decode cX4_nextGroups 90 = .ok (.goto (-88), 3) := by decide +kernel
theorem dX4_nextGroups_93 : decode cX4_nextGroups 93 = .ok (.iconst 0, 1) := by decide +kernel
theorem dX4_nextGroups_94 : decode cX4_nextGroups 94 = .ok (.ireturn, 1) := by decide +kernel
theorem dX4_implies_0 : decode cX4_implies 0 = .ok (.aload_n 0, 1) := by decide +kernel
theorem dX4_implies_1 : decode cX4_implies 1 = .ok (.iconst 0, 1) := by decide +kernel
theorem dX4_implies_2 : decode cX4_implies 2 = .ok (.putfield 62, 3) := by decide +kernel
theorem dX4_implies_5 : decode cX4_implies 5 = .ok (.aload_n 0, 1) := by decide +kernel
theorem dX4_implies_6 : decode cX4_implies 6 = .ok (.iconst 1, 1) := by decide +kernel
theorem dX4_implies_7 : decode cX4_implies 7 = .ok (.putfield 109, 3) := by decide +kernel
theorem dX4_implies_10 : decode cX4_implies 10 = .ok (.aload_n 0, 1) := by decide +kernel
theorem dX4_implies_11 : decode cX4_implies 11 = .ok (.iconst 0, 1) := by decide +kernel
theorem dX4_implies_12 : decode cX4_implies 12 = .ok (.putfield 106, 3) := by decide +kernel
theorem dX4_implies_15 : decode cX4_implies 15 = .ok (.aload_n 0, 1) := by decide +kernel
theorem dX4_implies_16 : decode cX4_implies 16 = .ok (.iconst 0, 1) := by decide +kernel
theorem dX4_implies_17 : decode cX4_implies 17 = .ok (.invokevirtual 121, 3) := by decide +kernel
theorem dX4_implies_20 : decode cX4_implies 20 = .ok (.ifCond .ne 7, 3) := by decide +kernel
theorem dX4_implies_23 : decode cX4_implies 23 = .ok (.iconst 1, 1) := by decide +kernel
theorem dX4_implies_24 : decode cX4_implies 24 = .ok (.goto 4, 3) := by decide +kernel
theorem dX4_implies_27 : decode cX4_implies 27 = .ok (.iconst 0, 1) := by decide +kernel
theorem dX4_implies_28 : decode cX4_implies 28 = .ok (.ireturn, 1) := by decide +kernel
theorem dX4_sure_0 : decode cX4_sure 0 = .ok (.aload_n 0, 1) := by decide +kernel
theorem dX4_sure_1 : decode cX4_sure 1 = .ok (.iload_n 2, 1) := by decide +kernel
theorem dX4_sure_2 : decode cX4_sure 2 = .ok (.invokestatic 70, 3) := by decide +kernel
theorem dX4_sure_5 : decode cX4_sure 5 = .ok (.ifCond .ne 10, 3) := by decide +kernel
theorem dX4_sure_8 : decode cX4_sure 8 = .ok (.iload_n 3, 1) := by decide +kernel
theorem dX4_sure_9 : decode cX4_sure 9 = .ok (.invokestatic 70, 3) := by decide +kernel
theorem dX4_sure_12 : decode cX4_sure 12 = .ok (.ifCond .eq 7, 3) := by decide +kernel
theorem dX4_sure_15 : decode cX4_sure 15 = .ok (.iconst 1, 1) := by decide +kernel
theorem dX4_sure_16 : decode cX4_sure 16 = .ok (.goto 17, 3) := by decide +kernel
theorem dX4_sure_19 : decode cX4_sure 19 = .ok (.iload_n 1, 1) := by decide +kernel
theorem dX4_sure_20 : decode cX4_sure 20 = .ok (.ifCond .lt 8, 3) := by decide +kernel
theorem dX4_sure_23 : decode cX4_sure 23 = .ok (.iload_n 1, 1) := by decide +kernel
theorem dX4_sure_24 : decode cX4_sure 24 = .ok (.iconst 2, 1) := by decide +kernel
theorem dX4_sure_25 : decode cX4_sure 25 = .ok (.if_icmp .le 7, 3) := by decide +kernel
theorem dX4_sure_28 : decode cX4_sure 28 = .ok (.iconst 2, 1) := by decide +kernel
theorem dX4_sure_29 : decode cX4_sure 29 = .ok (.goto 4, 3) := by decide +kernel
theorem dX4_sure_32 : decode cX4_sure 32 = .ok (.iconst 0, 1) := by decide +kernel
theorem dX4_sure_33 : decode cX4_sure 33 = .ok (.putfield 62, 3) := by decide +kernel
theorem dX4_sure_36 : decode cX4_sure 36 = .ok (.aload_n 0, 1) := by decide +kernel
theorem dX4_sure_37 : decode cX4_sure 37 = .ok (.getfield 62, 3) := by decide +kernel
theorem dX4_sure_40 : decode cX4_sure 40 = .ok (.ifCond .le 5, 3) := by decide +kernel
theorem dX4_sure_43 : decode cX4_sure 43 = .ok (.iconst 0, 1) := by decide +kernel
theorem dX4_sure_44 : decode cX4_sure 44 = .ok (.ireturn, 1) := by decide +kernel
theorem dX4_sure_45 : decode cX4_sure 45 = .ok (.aload_n 0, 1) := by decide +kernel
theorem dX4_sure_46 : decode cX4_sure 46 = .ok (.iload_n 1, 1) := by decide +kernel
theorem dX4_sure_47 : decode cX4_sure 47 = .ok (.iconst 2, 1) := by decide +kernel
theorem dX4_sure_48 : decode cX4_sure 48 = .ok (.iadd, 1) := by decide +kernel
theorem dX4_sure_49 : decode cX4_sure 49 = .ok (.putfield 109, 3) := by decide +kernel
theorem dX4_sure_52 : decode cX4_sure 52 = .ok (.aload_n 0, 1) := by decide +kernel
theorem dX4_sure_53 : decode cX4_sure 53 = .ok (.iload_n 2, 1) := by decide +kernel
theorem dX4_sure_54 : decode cX4_sure 54 = .ok (.putfield 115, 3) := by decide +kernel
theorem dX4_sure_57 : decode cX4_sure 57 = .ok (.aload_n 0, 1) := by decide +kernel
theorem dX4_sure_58 : decode cX4_sure 58 = .ok (.iload_n 3, 1) := by decide +kernel
theorem dX4_sure_59 : decode cX4_sure 59 = .ok (.putfield 118, 3) := by decide +kernel
theorem dX4_sure_62 : decode cX4_sure 62 = .ok (.aload_n 0, 1) := by decide +kernel
theorem dX4_sure_63 : decode cX4_sure 63 = .ok (.iconst 0, 1) := by decide +kernel
theorem dX4_sure_64 : decode cX4_sure 64 = .ok (.invokevirtual 121, 3) := by decide +kernel
theorem dX4_sure_67 : decode cX4_sure 67 = .ok (.ifCond .ne 7, 3) := by decide +kernel
theorem dX4_sure_70 : decode cX4_sure 70 = .ok (.iconst 1, 1) := by decide +kernel
theorem dX4_sure_71 : decode cX4_sure 71 = .ok (.goto 4, 3) := by decide +kernel
theorem dX4_sure_74 : decode cX4_sure 74 = .ok (.iconst 0, 1) := by decide +kernel
theorem dX4_sure_75 : decode cX4_sure 75 = .ok (.ireturn, 1) := by decide +kernel
theorem dX4_frame_0 : decode cX4_frame 0 = .ok (.aload_n 0, 1) := by decide +kernel
theorem dX4_frame_1 : decode cX4_frame 1 = .ok (.iconst 0, 1) := by decide +kernel
theorem dX4_frame_2 : decode cX4_frame 2 = .ok (.putfield 62, 3) := by decide +kernel
theorem dX4_frame_5 : decode cX4_frame 5 = .ok (.aload_n 0, 1) := by decide +kernel
theorem dX4_frame_6 : decode cX4_frame 6 = .ok (.iconst 1, 1) := by decide +kernel
theorem dX4_frame_7 : decode cX4_frame 7 = .ok (.putfield 109, 3) := by decide +kernel
theorem dX4_frame_10 : decode cX4_frame 10 = .ok (.iconst 0, 1) := by decide +kernel
theorem dX4_frame_11 : decode cX4_frame 11 = .ok (.istore_n 1, 1) := by decide +kernel
theorem dX4_frame_12 : decode cX4_frame 12 = .ok (.iload_n 1, 1) := by decide +kernel
theorem dX4_frame_13 : decode cX4_frame 13 = .ok (.iconst 1, 1) := by decide +kernel
theorem dX4_frame_14 : decode cX4_frame 14 = .ok (.aload_n 0, 1) := by decide +kernel
theorem dX4_frame_15 : decode cX4_frame 15 = .ok (.getfield 16, 3) := by decide +kernel
theorem dX4_frame_18 : decode cX4_frame 18 = .ok (.iconst 0, 1) := by decide +kernel
theorem dX4_frame_19 : decode cX4_frame 19 = .ok (.iaload, 1) := by decide +kernel
theorem dX4_frame_20 : decode cX4_frame 20 = .ok (.ishl, 1) := by decide +kernel
theorem dX4_frame_21 : decode cX4_frame 21 = .ok (.if_icmp .ge 24, 3) := by decide +kernel
theorem dX4_frame_24 : decode cX4_frame 24 = .ok (.aload_n 0, 1) := by decide +kernel
theorem dX4_frame_25 : decode cX4_frame 25 = .ok (.iload_n 1, 1) := by decide +kernel
theorem dX4_frame_26 : decode cX4_frame 26 = .ok (.putfield 106, 3) := by decide +kernel
theorem dX4_frame_29 : decode cX4_frame 29 = .ok (.aload_n 0, 1) := by decide +kernel
theorem dX4_frame_30 : decode cX4_frame 30 = .ok (.iconst 0, 1) := by decide +kernel
theorem dX4_frame_31 : decode cX4_frame 31 = .ok (.invokevirtual 121, 3) := by decide +kernel
theorem dX4_frame_34 : decode cX4_frame 34 = .ok (.ifCond .ne 5, 3) := by decide +kernel
theorem dX4_frame_37 : decode cX4_frame 37 = .ok (.iload_n 1, 1) := by decide +kernel
theorem dX4_frame_38 : decode cX4_frame 38 = .ok (.ireturn, 1) := by decide +kernel
theorem dX4_frame_39 : decode cX4_frame 39 = .ok (.iinc 1 1, 3) := by decide +kernel
theorem dX4_frame_42 : decode cX4_frame 42 = .ok (.goto (-30), 3) := by decide +kernel
theorem dX4_frame_45 : decode cX4_frame 45 = .ok (.iconst (-1), 1) := by decide +kernel
theorem dX4_frame_46 : decode cX4_frame 46 = .ok (.ireturn, 1) := by decide +kernel
theorem dX4_give_0 : decode cX4_give 0 = .ok (.aload_n 0, 1) := by decide +kernel
theorem dX4_give_1 : decode cX4_give 1 = .ok (.iload_n 1, 1) := by decide +kernel
theorem dX4_give_2 : decode cX4_give 2 = .ok (.invokestatic 124, 3) := by decide +kernel
theorem dX4_give_5 : decode cX4_give 5 = .ok (.ifCond .eq 7, 3) := by decide +kernel
theorem dX4_give_8 : decode cX4_give 8 = .ok (.iconst 1, 1) := by decide +kernel
theorem dX4_give_9 : decode cX4_give 9 = .ok (.goto 18, 3) := by decide +kernel
theorem dX4_give_12 : decode cX4_give 12 = .ok (.iload_n 2, 1) := by decide +kernel
theorem dX4_give_13 : decode cX4_give 13 = .ok (.ifCond .lt 9, 3) := by decide +kernel
theorem dX4_give_16 : decode cX4_give 16 = .ok (.iload_n 2, 1) := by decide +kernel
theorem dX4_give_17 : decode cX4_give 17 = .ok (.bipush 9, 2) := by decide +kernel
theorem dX4_give_19 : decode cX4_give 19 = .ok (.if_icmp .le 7, 3) := by decide +kernel
theorem dX4_give_22 : decode cX4_give 22 = .ok (.iconst 2, 1) := by decide +kernel
theorem dX4_give_23 : decode cX4_give 23 = .ok (.goto 4, 3) := by decide +kernel
theorem dX4_give_26 : decode cX4_give 26 = .ok (.iconst 0, 1) := by decide +kernel
theorem dX4_give_27 : decode cX4_give 27 = .ok (.putfield 62, 3) := by decide +kernel
theorem dX4_give_30 : decode cX4_give 30 = .ok (.aload_n 0, 1) := by decide +kernel
theorem dX4_give_31 : decode cX4_give 31 = .ok (.getfield 62, 3) := by decide +kernel
theorem dX4_give_34 : decode cX4_give 34 = .ok (.ifCond .ne 10, 3) := by decide +kernel
theorem dX4_give_37 : decode cX4_give 37 = .ok (.aload_n 0, 1) := by decide +kernel
theorem dX4_give_38 : decode cX4_give 38 = .ok (.getfield 53, 3) := by decide +kernel
theorem dX4_give_41 : decode cX4_give 41 = .ok (.iload_n 1, 1) := by decide +kernel
theorem dX4_give_42 : decode cX4_give 42 = .ok (.iload_n 2, 1) := by decide +kernel
theorem dX4_give_43 : decode cX4_give 43 = .ok (.iastore, 1) := by decide +kernel
theorem dX4_give_44 : decode cX4_give 44 = .ok (.return_, 1) := by decide +kernel
theorem dX4_noVariable_0 : decode cX4_noVariable 0 = .ok (.iload_n 0, 1) := by decide +kernel
theorem dX4_noVariable_1 : decode cX4_noVariable 1 = .ok (.ifCond .lt 8, 3) := by decide +kernel
theorem dX4_noVariable_4 : decode cX4_noVariable 4 = .ok (.iload_n 0, 1) := by decide +kernel
theorem dX4_noVariable_5 : decode cX4_noVariable 5 = .ok (.iconst 4, 1) := by decide +kernel
theorem dX4_noVariable_6 : decode cX4_noVariable 6 = .ok (.if_icmp .le 7, 3) := by decide +kernel
theorem dX4_noVariable_9 : decode cX4_noVariable 9 = .ok (.iconst 1, 1) := by decide +kernel
theorem dX4_noVariable_10 : decode cX4_noVariable 10 = .ok (.goto 4, 3) := by decide +kernel
theorem dX4_noVariable_13 : decode cX4_noVariable 13 = .ok (.iconst 0, 1) := by decide +kernel
theorem dX4_noVariable_14 : decode cX4_noVariable 14 = .ok (.ireturn, 1) := by decide +kernel
theorem dX4_put_0 : decode cX4_put 0 = .ok (.aload_n 0, 1) := by decide +kernel
theorem dX4_put_1 : decode cX4_put 1 = .ok (.iload_n 1, 1) := by decide +kernel
theorem dX4_put_2 : decode cX4_put 2 = .ok (.iconst 1, 1) := by decide +kernel
theorem dX4_put_3 : decode cX4_put 3 = .ok (.if_icmp .lt 19, 3) := by decide +kernel
theorem dX4_put_6 : decode cX4_put 6 = .ok (.iload_n 1, 1) := by decide +kernel
theorem dX4_put_7 : decode cX4_put 7 = .ok (.bipush 9, 2) := by decide +kernel
theorem dX4_put_9 : decode cX4_put 9 = .ok (.if_icmp .gt 13, 3) := by decide +kernel
theorem dX4_put_12 : decode cX4_put 12 = .ok (.iload_n 2, 1) := by decide +kernel
theorem dX4_put_13 : decode cX4_put 13 = .ok (.ifCond .lt 9, 3) := by decide +kernel
theorem dX4_put_16 : decode cX4_put 16 = .ok (.iload_n 2, 1) := by decide +kernel
theorem dX4_put_17 : decode cX4_put 17 = .ok (.bipush 9, 2) := by decide +kernel
theorem dX4_put_19 : decode cX4_put 19 = .ok (.if_icmp .le 7, 3) := by decide +kernel
theorem dX4_put_22 : decode cX4_put 22 = .ok (.iconst 1, 1) := by decide +kernel
theorem dX4_put_23 : decode cX4_put 23 = .ok (.goto 4, 3) := by decide +kernel
theorem dX4_put_26 : decode cX4_put 26 = .ok (.iconst 0, 1) := by decide +kernel
theorem dX4_put_27 : decode cX4_put 27 = .ok (.putfield 62, 3) := by decide +kernel
theorem dX4_put_30 : decode cX4_put 30 = .ok (.aload_n 0, 1) := by decide +kernel
theorem dX4_put_31 : decode cX4_put 31 = .ok (.getfield 62, 3) := by decide +kernel
theorem dX4_put_34 : decode cX4_put 34 = .ok (.ifCond .ne 10, 3) := by decide +kernel
theorem dX4_put_37 : decode cX4_put 37 = .ok (.aload_n 0, 1) := by decide +kernel
theorem dX4_put_38 : decode cX4_put 38 = .ok (.getfield 56, 3) := by decide +kernel
theorem dX4_put_41 : decode cX4_put 41 = .ok (.iload_n 1, 1) := by decide +kernel
theorem dX4_put_42 : decode cX4_put 42 = .ok (.iload_n 2, 1) := by decide +kernel
theorem dX4_put_43 : decode cX4_put 43 = .ok (.iastore, 1) := by decide +kernel
theorem dX4_put_44 : decode cX4_put 44 = .ok (.return_, 1) := by decide +kernel
theorem dX4_holds_0 : decode cX4_holds 0 = .ok (.aload_n 0, 1) := by decide +kernel
theorem dX4_holds_1 : decode cX4_holds 1 = .ok (.iload_n 1, 1) := by decide +kernel
theorem dX4_holds_2 : decode cX4_holds 2 = .ok (.invokestatic 66, 3) := by decide +kernel
theorem dX4_holds_5 : decode cX4_holds 5 = .ok (.ifCond .eq 7, 3) := by decide +kernel
theorem dX4_holds_8 : decode cX4_holds 8 = .ok (.iconst 1, 1) := by decide +kernel
theorem dX4_holds_9 : decode cX4_holds 9 = .ok (.goto 4, 3) := by decide +kernel
theorem dX4_holds_12 : decode cX4_holds 12 = .ok (.iconst 0, 1) := by decide +kernel
theorem dX4_holds_13 : decode cX4_holds 13 = .ok (.putfield 62, 3) := by decide +kernel
theorem dX4_holds_16 : decode cX4_holds 16 = .ok (.aload_n 0, 1) := by decide +kernel
theorem dX4_holds_17 : decode cX4_holds 17 = .ok (.getfield 62, 3) := by decide +kernel
theorem dX4_holds_20 : decode cX4_holds 20 = .ok (.ifCond .le 5, 3) := by decide +kernel
theorem dX4_holds_23 : decode cX4_holds 23 = .ok (.iconst 0, 1) := by decide +kernel
theorem dX4_holds_24 : decode cX4_holds 24 = .ok (.ireturn, 1) := by decide +kernel
theorem dX4_holds_25 : decode cX4_holds 25 = .ok (.iconst 0, 1) := by decide +kernel
theorem dX4_holds_26 : decode cX4_holds 26 = .ok (.istore_n 2, 1) := by decide +kernel
theorem dX4_holds_27 : decode cX4_holds 27 = .ok (.iload_n 2, 1) := by decide +kernel
theorem dX4_holds_28 : decode cX4_holds 28 = .ok (.bipush 6, 2) := by decide +kernel
theorem dX4_holds_30 : decode cX4_holds 30 = .ok (.if_icmp .ge 88, 3) := by decide +kernel
theorem dX4_holds_33 : decode cX4_holds 33 = .ok (.iconst 0, 1) := by decide +kernel
theorem dX4_holds_34 : decode cX4_holds 34 = .ok (.istore_n 3, 1) := by decide +kernel
theorem dX4_holds_35 : decode cX4_holds 35 = .ok (.iload_n 3, 1) := by decide +kernel
theorem dX4_holds_36 : decode cX4_holds 36 = .ok (.bipush 6, 2) := by decide +kernel
theorem dX4_holds_38 : decode cX4_holds 38 = .ok (.if_icmp .ge 74, 3) := by decide +kernel
theorem dX4_holds_41 : decode cX4_holds 41 = .ok (.bipush 36, 2) := by decide +kernel
theorem dX4_holds_43 : decode cX4_holds 43 = .ok (.iload_n 1, 1) := by decide +kernel
theorem dX4_holds_44 : decode cX4_holds 44 = .ok (.imul, 1) := by decide +kernel
theorem dX4_holds_45 : decode cX4_holds 45 = .ok (.bipush 6, 2) := by decide +kernel
theorem dX4_holds_47 : decode cX4_holds 47 = .ok (.iload_n 2, 1) := by decide +kernel
theorem dX4_holds_48 : decode cX4_holds 48 = .ok (.imul, 1) := by decide +kernel
theorem dX4_holds_49 : decode cX4_holds 49 = .ok (.iadd, 1) := by decide +kernel
theorem dX4_holds_50 : decode cX4_holds 50 = .ok (.iload_n 3, 1) := by decide +kernel
theorem dX4_holds_51 : decode cX4_holds 51 = .ok (.iadd, 1) := by decide +kernel
theorem dX4_holds_52 : decode cX4_holds 52 = .ok (.istore 4, 2) := by decide +kernel
theorem dX4_holds_54 : decode cX4_holds 54 = .ok (.aload_n 0, 1) := by decide +kernel
theorem dX4_holds_55 : decode cX4_holds 55 = .ok (.iload_n 2, 1) := by decide +kernel
theorem dX4_holds_56 : decode cX4_holds 56 = .ok (.invokevirtual 127, 3) := by decide +kernel
theorem dX4_holds_59 : decode cX4_holds 59 = .ok (.aload_n 0, 1) := by decide +kernel
theorem dX4_holds_60 : decode cX4_holds 60 = .ok (.iload_n 3, 1) := by decide +kernel
theorem dX4_holds_61 : decode cX4_holds 61 = .ok (.invokevirtual 127, 3) := by decide +kernel
theorem dX4_holds_64 : decode cX4_holds 64 = .ok (.if_icmp .ne 7, 3) := by decide +kernel
theorem dX4_holds_67 : decode cX4_holds 67 = .ok (.iconst 1, 1) := by decide +kernel
theorem dX4_holds_68 : decode cX4_holds 68 = .ok (.goto 4, 3) := by decide +kernel
theorem dX4_holds_71 : decode cX4_holds 71 = .ok (.iconst 0, 1) := by decide +kernel
theorem dX4_holds_72 : decode cX4_holds 72 = .ok (.istore 5, 2) := by decide +kernel
theorem dX4_holds_74 : decode cX4_holds 74 = .ok (.aload_n 0, 1) := by decide +kernel
theorem dX4_holds_75 : decode cX4_holds 75 = .ok (.getfield 7, 3) := by decide +kernel
theorem dX4_holds_78 : decode cX4_holds 78 = .ok (.iload 4, 2) := by decide +kernel
theorem dX4_holds_80 : decode cX4_holds 80 = .ok (.baload, 1) := by decide +kernel
theorem dX4_holds_81 : decode cX4_holds 81 = .ok (.ifCond .eq 8, 3) := by decide +kernel
theorem dX4_holds_84 : decode cX4_holds 84 = .ok (.iload 5, 2) := by decide +kernel
theorem dX4_holds_86 : decode cX4_holds 86 = .ok (.ifCond .eq 18, 3) := by decide +kernel
theorem dX4_holds_89 : decode cX4_holds 89 = .ok (.aload_n 0, 1) := by decide +kernel
theorem dX4_holds_90 : decode cX4_holds 90 = .ok (.getfield 13, 3) := by decide +kernel
theorem dX4_holds_93 : decode cX4_holds 93 = .ok (.iload 4, 2) := by decide +kernel
theorem dX4_holds_95 : decode cX4_holds 95 = .ok (.baload, 1) := by decide +kernel
theorem dX4_holds_96 : decode cX4_holds 96 = .ok (.ifCond .eq 10, 3) := by decide +kernel
theorem dX4_holds_99 : decode cX4_holds 99 = .ok (.iload 5, 2) := by decide +kernel
theorem dX4_holds_101 : decode cX4_holds 101 = .ok (.ifCond .eq 5, 3) := by decide +kernel
theorem dX4_holds_104 : decode cX4_holds 104 = .ok (.iconst 0, 1) := by decide +kernel
theorem dX4_holds_105 : decode cX4_holds 105 = .ok (.ireturn, 1) := by decide +kernel
theorem dX4_holds_106 : decode cX4_holds 106 = .ok (.iinc 3 1, 3) := by decide +kernel
theorem dX4_holds_109 : decode cX4_holds 109 = .ok (.goto (-74), 3) := by decide +kernel
theorem dX4_holds_112 : decode cX4_holds 112 = .ok (.iinc 2 1, 3) := by decide +kernel
theorem dX4_holds_115 : decode cX4_holds 115 = .ok (.goto (-88), 3) := by decide +kernel
theorem dX4_holds_118 : decode cX4_holds 118 = .ok (.iconst 0, 1) := by decide +kernel
theorem dX4_holds_119 : decode cX4_holds 119 = .ok (.istore_n 2, 1) := by decide +kernel
theorem dX4_holds_120 : decode cX4_holds 120 = .ok (.iload_n 2, 1) := by decide +kernel
theorem dX4_holds_121 : decode cX4_holds 121 = .ok (.bipush 10, 2) := by decide +kernel
theorem dX4_holds_123 : decode cX4_holds 123 = .ok (.if_icmp .ge 16, 3) := by decide +kernel
theorem dX4_holds_126 : decode cX4_holds 126 = .ok (.aload_n 0, 1) := by decide +kernel
theorem dX4_holds_127 : decode cX4_holds 127 = .ok (.getfield 59, 3) := by decide +kernel
theorem dX4_holds_130 : decode cX4_holds 130 = .ok (.iload_n 2, 1) := by decide +kernel
theorem dX4_holds_131 : decode cX4_holds 131 = .ok (.iconst 0, 1) := by decide +kernel
theorem dX4_holds_132 : decode cX4_holds 132 = .ok (.bastore, 1) := by decide +kernel
theorem dX4_holds_133 : decode cX4_holds 133 = .ok (.iinc 2 1, 3) := by decide +kernel
theorem dX4_holds_136 : decode cX4_holds 136 = .ok (.goto (-16), 3) := by decide +kernel
theorem dX4_holds_139 : decode cX4_holds 139 = .ok (.iconst 5, 1) := by decide +kernel
theorem dX4_holds_140 : decode cX4_holds 140 = .ok (.iload_n 1, 1) := by decide +kernel
theorem dX4_holds_141 : decode cX4_holds 141 = .ok (.imul, 1) := by decide +kernel
theorem dX4_holds_142 : decode cX4_holds 142 = .ok (.istore_n 2, 1) := by decide +kernel
theorem dX4_holds_143 : decode cX4_holds 143 = .ok (.iload_n 2, 1) := by decide +kernel
theorem dX4_holds_144 : decode cX4_holds 144 = .ok (.iconst 5, 1) := by decide +kernel
theorem dX4_holds_145 : decode cX4_holds 145 = .ok (.iload_n 1, 1) := by decide +kernel
theorem dX4_holds_146 : decode cX4_holds 146 = .ok (.imul, 1) := by decide +kernel
theorem dX4_holds_147 : decode cX4_holds 147 = .ok (.aload_n 0, 1) := by decide +kernel
theorem dX4_holds_148 : decode cX4_holds 148 = .ok (.getfield 16, 3) := by decide +kernel
theorem dX4_holds_151 : decode cX4_holds 151 = .ok (.iload_n 1, 1) := by decide +kernel
theorem dX4_holds_152 : decode cX4_holds 152 = .ok (.iaload, 1) := by decide +kernel
theorem dX4_holds_153 : decode cX4_holds 153 = .ok (.iadd, 1) := by decide +kernel
theorem dX4_holds_154 : decode cX4_holds 154 = .ok (.if_icmp .ge 19, 3) := by decide +kernel
theorem dX4_holds_157 : decode cX4_holds 157 = .ok (.aload_n 0, 1) := by decide +kernel
theorem dX4_holds_158 : decode cX4_holds 158 = .ok (.iload_n 2, 1) := by decide +kernel
theorem dX4_holds_159 : decode cX4_holds 159 = .ok (.invokevirtual 131, 3) := by decide +kernel
theorem dX4_holds_162 : decode cX4_holds 162 = .ok (.ifCond .ne 5, 3) := by decide +kernel
theorem dX4_holds_165 : decode cX4_holds 165 = .ok (.iconst 0, 1) := by decide +kernel
theorem dX4_holds_166 : decode cX4_holds 166 = .ok (.ireturn, 1) := by decide +kernel
theorem dX4_holds_167 : decode cX4_holds 167 = .ok (.iinc 2 1, 3) := by decide +kernel
theorem dX4_holds_170 : decode cX4_holds 170 = .ok (.goto (-27), 3) := by decide +kernel
theorem dX4_holds_173 : decode cX4_holds 173 = .ok (.iconst 1, 1) := by decide +kernel
theorem dX4_holds_174 : decode cX4_holds 174 = .ok (.istore_n 2, 1) := by decide +kernel
theorem dX4_holds_175 : decode cX4_holds 175 = .ok (.iload_n 2, 1) := by decide +kernel
theorem dX4_holds_176 : decode cX4_holds 176 = .ok (.bipush 10, 2) := by decide +kernel
theorem dX4_holds_178 : decode cX4_holds 178 = .ok (.if_icmp .ge 29, 3) := by decide +kernel
theorem dX4_holds_181 : decode cX4_holds 181 = .ok (.aload_n 0, 1) := by decide +kernel
theorem dX4_holds_182 : decode cX4_holds 182 = .ok (.getfield 56, 3) := by decide +kernel
theorem dX4_holds_185 : decode cX4_holds 185 = .ok (.iload_n 2, 1) := by decide +kernel
theorem dX4_holds_186 : decode cX4_holds 186 = .ok (.iaload, 1) := by decide +kernel
theorem dX4_holds_187 : decode cX4_holds 187 = .ok (.ifCond .lt 14, 3) := by decide +kernel
theorem dX4_holds_190 : decode cX4_holds 190 = .ok (.aload_n 0, 1) := by decide +kernel
theorem dX4_holds_191 : decode cX4_holds 191 = .ok (.getfield 59, 3) := by decide +kernel
theorem dX4_holds_194 : decode cX4_holds 194 = .ok (.iload_n 2, 1) := by decide +kernel
theorem dX4_holds_195 : decode cX4_holds 195 = .ok (.baload, 1) := by decide +kernel
theorem dX4_holds_196 : decode cX4_holds 196 = .ok (.ifCond .ne 5, 3) := by decide +kernel
theorem dX4_holds_199 : decode cX4_holds 199 = .ok (.iconst 0, 1) := by decide +kernel
theorem dX4_holds_200 : decode cX4_holds 200 = .ok (.ireturn, 1) := by decide +kernel
theorem dX4_holds_201 : decode cX4_holds 201 = .ok (.iinc 2 1, 3) := by decide +kernel
theorem dX4_holds_204 : decode cX4_holds 204 = .ok (.goto (-29), 3) := by decide +kernel
theorem dX4_holds_207 : decode cX4_holds 207 = .ok (.iconst 1, 1) := by decide +kernel
theorem dX4_holds_208 : decode cX4_holds 208 = .ok (.ireturn, 1) := by decide +kernel
theorem dX4_valueOf_0 : decode cX4_valueOf 0 = .ok (.iload_n 1, 1) := by decide +kernel
theorem dX4_valueOf_1 : decode cX4_valueOf 1 = .ok (.iconst 5, 1) := by decide +kernel
theorem dX4_valueOf_2 : decode cX4_valueOf 2 = .ok (.if_icmp .ne 7, 3) := by decide +kernel
theorem dX4_valueOf_5 : decode cX4_valueOf 5 = .ok (.iconst 0, 1) := by decide +kernel
theorem dX4_valueOf_6 : decode cX4_valueOf 6 = .ok (.goto 9, 3) := by decide +kernel
theorem dX4_valueOf_9 : decode cX4_valueOf 9 = .ok (.aload_n 0, 1) := by decide +kernel
theorem dX4_valueOf_10 : decode cX4_valueOf 10 = .ok (.getfield 53, 3) := by decide +kernel
theorem dX4_valueOf_13 : decode cX4_valueOf 13 = .ok (.iload_n 1, 1) := by decide +kernel
theorem dX4_valueOf_14 : decode cX4_valueOf 14 = .ok (.iaload, 1) := by decide +kernel
theorem dX4_valueOf_15 : decode cX4_valueOf 15 = .ok (.ireturn, 1) := by decide +kernel

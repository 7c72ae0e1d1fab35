/-! decoded instructions -/
theorem dX1_init_0 : decode cX1_init 0 = .ok (.aload_n 0, 1) := by decide +kernel
theorem dX1_init_1 : decode cX1_init 1 = .ok (.invokespecial 3, 3) := by decide +kernel
theorem dX1_init_4 : decode cX1_init 4 = .ok (.aload_n 0, 1) := by decide +kernel
theorem dX1_init_5 : decode cX1_init 5 = .ok (.bipush 6, 2) := by decide +kernel
theorem dX1_init_7 : decode cX1_init 7 = .ok (.newarray .int, 2) := by decide +kernel
theorem dX1_init_9 : decode cX1_init 9 = .ok (.putfield 9, 3) := by decide +kernel
theorem dX1_init_12 : decode cX1_init 12 = .ok (.aload_n 0, 1) := by decide +kernel
theorem dX1_init_13 : decode cX1_init 13 = .ok (.bipush 6, 2) := by decide +kernel
theorem dX1_init_15 : decode cX1_init 15 = .ok (.newarray .int, 2) := by decide +kernel
theorem dX1_init_17 : decode cX1_init 17 = .ok (.putfield 15, 3) := by decide +kernel
theorem dX1_init_20 : decode cX1_init 20 = .ok (.aload_n 0, 1) := by decide +kernel
theorem dX1_init_21 : decode cX1_init 21 = .ok (.iconst 5, 1) := by decide +kernel
theorem dX1_init_22 : decode cX1_init 22 = .ok (.newarray .int, 2) := by decide +kernel
theorem dX1_init_24 : decode cX1_init 24 = .ok (.putfield 18, 3) := by decide +kernel
theorem dX1_init_27 : decode cX1_init 27 = .ok (.aload_n 0, 1) := by decide +kernel
theorem dX1_init_28 : decode cX1_init 28 = .ok (.iconst 5, 1) := by decide +kernel
theorem dX1_init_29 : decode cX1_init 29 = .ok (.newarray .int, 2) := by decide +kernel
theorem dX1_init_31 : decode cX1_init 31 = .ok (.putfield 21, 3) := by decide +kernel
theorem dX1_init_34 : decode cX1_init 34 = .ok (.aload_n 0, 1) := by decide +kernel
theorem dX1_init_35 : decode cX1_init 35 = .ok (.iconst 5, 1) := by decide +kernel
theorem dX1_init_36 : decode cX1_init 36 = .ok (.newarray .boolean, 2) := by decide +kernel
theorem dX1_init_38 : decode cX1_init 38 = .ok (.putfield 24, 3) := by decide +kernel
theorem dX1_init_41 : decode cX1_init 41 = .ok (.return_, 1) := by decide +kernel
theorem dX2_init_0 : decode cX2_init 0 = .ok (.aload_n 0, 1) := by decide +kernel
theorem dX2_init_1 : decode cX2_init 1 = .ok (.invokespecial 3, 3) := by decide +kernel
theorem dX2_init_4 : decode cX2_init 4 = .ok (.aload_n 0, 1) := by decide +kernel
theorem dX2_init_5 : decode cX2_init 5 = .ok (.bipush 6, 2) := by decide +kernel
theorem dX2_init_7 : decode cX2_init 7 = .ok (.newarray .int, 2) := by decide +kernel
theorem dX2_init_9 : decode cX2_init 9 = .ok (.putfield 9, 3) := by decide +kernel
theorem dX2_init_12 : decode cX2_init 12 = .ok (.aload_n 0, 1) := by decide +kernel
theorem dX2_init_13 : decode cX2_init 13 = .ok (.iload_n 1, 1) := by decide +kernel
theorem dX2_init_14 : decode cX2_init 14 = .ok (.putfield 15, 3) := by decide +kernel
theorem dX2_init_17 : decode cX2_init 17 = .ok (.aload_n 0, 1) := by decide +kernel
theorem dX2_init_18 : decode cX2_init 18 = .ok (.iload_n 1, 1) := by decide +kernel
theorem dX2_init_19 : decode cX2_init 19 = .ok (.iconst 1, 1) := by decide +kernel
theorem dX2_init_20 : decode cX2_init 20 = .ok (.iadd, 1) := by decide +kernel
theorem dX2_init_21 : decode cX2_init 21 = .ok (.newarray .int, 2) := by decide +kernel
theorem dX2_init_23 : decode cX2_init 23 = .ok (.putfield 19, 3) := by decide +kernel
theorem dX2_init_26 : decode cX2_init 26 = .ok (.aload_n 0, 1) := by decide +kernel
theorem dX2_init_27 : decode cX2_init 27 = .ok (.iload_n 1, 1) := by decide +kernel
theorem dX2_init_28 : decode cX2_init 28 = .ok (.iconst 1, 1) := by decide +kernel
theorem dX2_init_29 : decode cX2_init 29 = .ok (.iadd, 1) := by decide +kernel
theorem dX2_init_30 : decode cX2_init 30 = .ok (.newarray .boolean, 2) := by decide +kernel
theorem dX2_init_32 : decode cX2_init 32 = .ok (.putfield 22, 3) := by decide +kernel
theorem dX2_init_35 : decode cX2_init 35 = .ok (.aload_n 0, 1) := by decide +kernel
theorem dX2_init_36 : decode cX2_init 36 = .ok (.iload_n 1, 1) := by decide +kernel
theorem dX2_init_37 : decode cX2_init 37 = .ok (.iconst 1, 1) := by decide +kernel
theorem dX2_init_38 : decode cX2_init 38 = .ok (.iadd, 1) := by decide +kernel
theorem dX2_init_39 : decode cX2_init 39 = .ok (.newarray .int, 2) := by decide +kernel
theorem dX2_init_41 : decode cX2_init 41 = .ok (.putfield 26, 3) := by decide +kernel
theorem dX2_init_44 : decode cX2_init 44 = .ok (.aload_n 0, 1) := by decide +kernel
theorem dX2_init_45 : decode cX2_init 45 = .ok (.getfield 19, 3) := by decide +kernel
theorem dX2_init_48 : decode cX2_init 48 = .ok (.iconst (-1), 1) := by decide +kernel
theorem dX2_init_49 : decode cX2_init 49 = .ok (.invokestatic 29, 3) := by decide +kernel
theorem dX2_init_52 : decode cX2_init 52 = .ok (.return_, 1) := by decide +kernel
theorem dJ7_fill_0 : decode cJ7_fill 0 = .ok (.iconst 0, 1) := by decide +kernel
theorem dJ7_fill_1 : decode cJ7_fill 1 = .ok (.istore_n 2, 1) := by decide +kernel
theorem dJ7_fill_2 : decode cJ7_fill 2 = .ok (.aload_n 0, 1) := by decide +kernel
theorem dJ7_fill_3 : decode cJ7_fill 3 = .ok (.arraylength, 1) := by decide +kernel
theorem dJ7_fill_4 : decode cJ7_fill 4 = .ok (.istore_n 3, 1) := by decide +kernel
theorem dJ7_fill_5 : decode cJ7_fill 5 = .ok (.iload_n 2, 1) := by decide +kernel
theorem dJ7_fill_6 : decode cJ7_fill 6 = .ok (.iload_n 3, 1) := by decide +kernel
theorem dJ7_fill_7 : decode cJ7_fill 7 = .ok (.if_icmp .ge 13, 3) := by decide +kernel
theorem dJ7_fill_10 : decode cJ7_fill 10 = .ok (.aload_n 0, 1) := by decide +kernel
theorem dJ7_fill_11 : decode cJ7_fill 11 = .ok (.iload_n 2, 1) := by decide +kernel
theorem dJ7_fill_12 : decode cJ7_fill 12 = .ok (.iload_n 1, 1) := by decide +kernel
theorem dJ7_fill_13 : decode cJ7_fill 13 = .ok (.iastore, 1) := by decide +kernel
theorem dJ7_fill_14 : decode cJ7_fill 14 = .ok (.iinc 2 1, 3) := by decide +kernel
theorem dJ7_fill_17 : decode cJ7_fill 17 = .ok (.goto (-12), 3) := by decide +kernel
theorem dJ7_fill_20 : decode cJ7_fill 20 = .ok (.return_, 1) := by decide +kernel
theorem dX0_init_0 : decode cX0_init 0 = .ok (.aload_n 0, 1) := by decide +kernel
theorem dX0_init_1 : decode cX0_init 1 = .ok (.invokespecial 3, 3) := by decide +kernel
theorem dX0_init_4 : decode cX0_init 4 = .ok (.aload_n 0, 1) := by decide +kernel
theorem dX0_init_5 : decode cX0_init 5 = .ok (.new 9, 3) := by decide +kernel
theorem dX0_init_8 : decode cX0_init 8 = .ok (.dup, 1) := by decide +kernel
theorem dX0_init_9 : decode cX0_init 9 = .ok (.iconst 5, 1) := by decide +kernel
theorem dX0_init_10 : decode cX0_init 10 = .ok (.invokespecial 11, 3) := by decide +kernel
theorem dX0_init_13 : decode cX0_init 13 = .ok (.putfield 14, 3) := by decide +kernel
theorem dX0_init_16 : decode cX0_init 16 = .ok (.return_, 1) := by decide +kernel
theorem dX0_begin_0 : decode cX0_begin 0 = .ok (.aload_n 0, 1) := by decide +kernel
theorem dX0_begin_1 : decode cX0_begin 1 = .ok (.iload_n 1, 1) := by decide +kernel
theorem dX0_begin_2 : decode cX0_begin 2 = .ok (.putfield 20, 3) := by decide +kernel
theorem dX0_begin_5 : decode cX0_begin 5 = .ok (.aload_n 0, 1) := by decide +kernel
theorem dX0_begin_6 : decode cX0_begin 6 = .ok (.getfield 14, 3) := by decide +kernel
theorem dX0_begin_9 : decode cX0_begin 9 = .ok (.getfield 24, 3) := by decide +kernel
theorem dX0_begin_12 : decode cX0_begin 12 = .ok (.iconst 0, 1) := by decide +kernel
theorem dX0_begin_13 : decode cX0_begin 13 = .ok (.invokestatic 28, 3) := by decide +kernel
theorem dX0_begin_16 : decode cX0_begin 16 = .ok (.return_, 1) := by decide +kernel
theorem dX0_draw_0 : decode cX0_draw 0 = .ok (.aload_n 1, 1) := by decide +kernel
theorem dX0_draw_1 : decode cX0_draw 1 = .ok (.aload_n 0, 1) := by decide +kernel
theorem dX0_draw_2 : decode cX0_draw 2 = .ok (.getfield 14, 3) := by decide +kernel
theorem dX0_draw_5 : decode cX0_draw 5 = .ok (.getfield 24, 3) := by decide +kernel
theorem dX0_draw_8 : decode cX0_draw 8 = .ok (.invokevirtual 44, 3) := by decide +kernel
theorem dX0_draw_11 : decode cX0_draw 11 = .ok (.ifCond .ne 5, 3) := by decide +kernel
theorem dX0_draw_14 : decode cX0_draw 14 = .ok (.iconst 0, 1) := by decide +kernel
theorem dX0_draw_15 : decode cX0_draw 15 = .ok (.ireturn, 1) := by decide +kernel
theorem dX0_draw_16 : decode cX0_draw 16 = .ok (.aload_n 0, 1) := by decide +kernel
theorem dX0_draw_17 : decode cX0_draw 17 = .ok (.getfield 14, 3) := by decide +kernel
theorem dX0_draw_20 : decode cX0_draw 20 = .ok (.invokevirtual 50, 3) := by decide +kernel
theorem dX0_draw_23 : decode cX0_draw 23 = .ok (.iconst 0, 1) := by decide +kernel
theorem dX0_draw_24 : decode cX0_draw 24 = .ok (.istore_n 2, 1) := by decide +kernel
theorem dX0_draw_25 : decode cX0_draw 25 = .ok (.iload_n 2, 1) := by decide +kernel
theorem dX0_draw_26 : decode cX0_draw 26 = .ok (.aload_n 1, 1) := by decide +kernel
theorem dX0_draw_27 : decode cX0_draw 27 = .ok (.getfield 53, 3) := by decide +kernel
theorem dX0_draw_30 : decode cX0_draw 30 = .ok (.if_icmp .ge 103, 3) := by decide +kernel
theorem dX0_draw_33 : decode cX0_draw 33 = .ok (.aload_n 0, 1) := by decide +kernel
theorem dX0_draw_34 : decode cX0_draw 34 = .ok (.getfield 14, 3) := by decide +kernel
theorem dX0_draw_37 : decode cX0_draw 37 = .ok (.getfield 24, 3) := by decide +kernel
theorem dX0_draw_40 : decode cX0_draw 40 = .ok (.aload_n 1, 1) := by decide +kernel
theorem dX0_draw_41 : decode cX0_draw 41 = .ok (.getfield 56, 3) := by decide +kernel
theorem dX0_draw_44 : decode cX0_draw 44 = .ok (.iload_n 2, 1) := by decide +kernel
theorem dX0_draw_45 : decode cX0_draw 45 = .ok (.iaload, 1) := by decide +kernel
theorem dX0_draw_46 : decode cX0_draw 46 = .ok (.iaload, 1) := by decide +kernel
theorem dX0_draw_47 : decode cX0_draw 47 = .ok (.istore_n 3, 1) := by decide +kernel
theorem dX0_draw_48 : decode cX0_draw 48 = .ok (.aload_n 0, 1) := by decide +kernel
theorem dX0_draw_49 : decode cX0_draw 49 = .ok (.getfield 14, 3) := by decide +kernel
theorem dX0_draw_52 : decode cX0_draw 52 = .ok (.getfield 24, 3) := by decide +kernel
theorem dX0_draw_55 : decode cX0_draw 55 = .ok (.aload_n 1, 1) := by decide +kernel
theorem dX0_draw_56 : decode cX0_draw 56 = .ok (.getfield 59, 3) := by decide +kernel
theorem dX0_draw_59 : decode cX0_draw 59 = .ok (.iload_n 2, 1) := by decide +kernel
theorem dX0_draw_60 : decode cX0_draw 60 = .ok (.iaload, 1) := by decide +kernel
theorem dX0_draw_61 : decode cX0_draw 61 = .ok (.iaload, 1) := by decide +kernel
theorem dX0_draw_62 : decode cX0_draw 62 = .ok (.istore 4, 2) := by decide +kernel
theorem dX0_draw_64 : decode cX0_draw 64 = .ok (.aload_n 1, 1) := by decide +kernel
theorem dX0_draw_65 : decode cX0_draw 65 = .ok (.getfield 62, 3) := by decide +kernel
theorem dX0_draw_68 : decode cX0_draw 68 = .ok (.iload_n 2, 1) := by decide +kernel
theorem dX0_draw_69 : decode cX0_draw 69 = .ok (.baload, 1) := by decide +kernel
theorem dX0_draw_70 : decode cX0_draw 70 = .ok (.ifCond .eq 13, 3) := by decide +kernel
theorem dX0_draw_73 : decode cX0_draw 73 = .ok (.iload_n 3, 1) := by decide +kernel
theorem dX0_draw_74 : decode cX0_draw 74 = .ok (.iload 4, 2) := by decide +kernel
theorem dX0_draw_76 : decode cX0_draw 76 = .ok (.if_icmp .ne 7, 3) := by decide +kernel
theorem dX0_draw_79 : decode cX0_draw 79 = .ok (.iconst 1, 1) := by decide +kernel
theorem dX0_draw_80 : decode cX0_draw 80 = .ok (.goto 4, 3) := by decide +kernel
theorem dX0_draw_83 : decode cX0_draw 83 = .ok (.iconst 0, 1) := by decide +kernel
theorem dX0_draw_84 : decode cX0_draw 84 = .ok (.istore 5, 2) := by decide +kernel
theorem dX0_draw_86 : decode cX0_draw 86 = .ok (.iload 5, 2) := by decide +kernel
theorem dX0_draw_88 : decode cX0_draw 88 = .ok (.ifCond .ne 39, 3) := by decide +kernel
theorem dX0_draw_91 : decode cX0_draw 91 = .ok (.iload_n 3, 1) := by decide +kernel
theorem dX0_draw_92 : decode cX0_draw 92 = .ok (.ifCond .eq 14, 3) := by decide +kernel
theorem dX0_draw_95 : decode cX0_draw 95 = .ok (.aload_n 0, 1) := by decide +kernel
theorem dX0_draw_96 : decode cX0_draw 96 = .ok (.getfield 14, 3) := by decide +kernel
theorem dX0_draw_99 : decode cX0_draw 99 = .ok (.iload_n 3, 1) := by decide +kernel
theorem dX0_draw_100 : decode cX0_draw 100 = .ok (.invokevirtual 66, 3) := by decide +kernel
theorem dX0_draw_103 : decode cX0_draw 103 = .ok (.ifCond .eq 5, 3) := by decide +kernel
theorem dX0_draw_106 : decode cX0_draw 106 = .ok (.iconst 0, 1) := by decide +kernel
theorem dX0_draw_107 : decode cX0_draw 107 = .ok (.ireturn, 1) := by decide +kernel
theorem dX0_draw_108 : decode cX0_draw 108 = .ok (.aload_n 0, 1) := by decide +kernel
theorem dX0_draw_109 : decode cX0_draw 109 = .ok (.getfield 14, 3) := by decide +kernel
theorem dX0_draw_112 : decode cX0_draw 112 = .ok (.iload_n 3, 1) := by decide +kernel
theorem dX0_draw_113 : decode cX0_draw 113 = .ok (.iload 4, 2) := by decide +kernel
theorem dX0_draw_115 : decode cX0_draw 115 = .ok (.aload_n 1, 1) := by decide +kernel
theorem dX0_draw_116 : decode cX0_draw 116 = .ok (.getfield 62, 3) := by decide +kernel
theorem dX0_draw_119 : decode cX0_draw 119 = .ok (.iload_n 2, 1) := by decide +kernel
theorem dX0_draw_120 : decode cX0_draw 120 = .ok (.baload, 1) := by decide +kernel
theorem dX0_draw_121 : decode cX0_draw 121 = .ok (.iconst 1, 1) := by decide +kernel
theorem dX0_draw_122 : decode cX0_draw 122 = .ok (.iload_n 2, 1) := by decide +kernel
theorem dX0_draw_123 : decode cX0_draw 123 = .ok (.ishl, 1) := by decide +kernel
theorem dX0_draw_124 : decode cX0_draw 124 = .ok (.invokevirtual 70, 3) := by decide +kernel
theorem dX0_draw_127 : decode cX0_draw 127 = .ok (.iinc 2 1, 3) := by decide +kernel
theorem dX0_draw_130 : decode cX0_draw 130 = .ok (.goto (-105), 3) := by decide +kernel
theorem dX0_draw_133 : decode cX0_draw 133 = .ok (.iconst 1, 1) := by decide +kernel
theorem dX0_draw_134 : decode cX0_draw 134 = .ok (.ireturn, 1) := by decide +kernel
theorem dX1_pairsFit_0 : decode cX1_pairsFit 0 = .ok (.iconst 0, 1) := by decide +kernel
theorem dX1_pairsFit_1 : decode cX1_pairsFit 1 = .ok (.istore_n 2, 1) := by decide +kernel
theorem dX1_pairsFit_2 : decode cX1_pairsFit 2 = .ok (.iload_n 2, 1) := by decide +kernel
theorem dX1_pairsFit_3 : decode cX1_pairsFit 3 = .ok (.bipush 6, 2) := by decide +kernel
theorem dX1_pairsFit_5 : decode cX1_pairsFit 5 = .ok (.if_icmp .ge 57, 3) := by decide +kernel
theorem dX1_pairsFit_8 : decode cX1_pairsFit 8 = .ok (.aload_n 0, 1) := by decide +kernel
theorem dX1_pairsFit_9 : decode cX1_pairsFit 9 = .ok (.getfield 9, 3) := by decide +kernel
theorem dX1_pairsFit_12 : decode cX1_pairsFit 12 = .ok (.iload_n 2, 1) := by decide +kernel
theorem dX1_pairsFit_13 : decode cX1_pairsFit 13 = .ok (.iaload, 1) := by decide +kernel
theorem dX1_pairsFit_14 : decode cX1_pairsFit 14 = .ok (.aload_n 0, 1) := by decide +kernel
theorem dX1_pairsFit_15 : decode cX1_pairsFit 15 = .ok (.getfield 15, 3) := by decide +kernel
theorem dX1_pairsFit_18 : decode cX1_pairsFit 18 = .ok (.iload_n 2, 1) := by decide +kernel
theorem dX1_pairsFit_19 : decode cX1_pairsFit 19 = .ok (.iaload, 1) := by decide +kernel
theorem dX1_pairsFit_20 : decode cX1_pairsFit 20 = .ok (.ior, 1) := by decide +kernel
theorem dX1_pairsFit_21 : decode cX1_pairsFit 21 = .ok (.ifCond .eq 35, 3) := by decide +kernel
theorem dX1_pairsFit_24 : decode cX1_pairsFit 24 = .ok (.iload_n 2, 1) := by decide +kernel
theorem dX1_pairsFit_25 : decode cX1_pairsFit 25 = .ok (.aload_n 1, 1) := by decide +kernel
theorem dX1_pairsFit_26 : decode cX1_pairsFit 26 = .ok (.invokestatic 41, 3) := by decide +kernel
theorem dX1_pairsFit_29 : decode cX1_pairsFit 29 = .ok (.istore_n 3, 1) := by decide +kernel
theorem dX1_pairsFit_30 : decode cX1_pairsFit 30 = .ok (.aload_n 0, 1) := by decide +kernel
theorem dX1_pairsFit_31 : decode cX1_pairsFit 31 = .ok (.getfield 9, 3) := by decide +kernel
theorem dX1_pairsFit_34 : decode cX1_pairsFit 34 = .ok (.iload_n 2, 1) := by decide +kernel
theorem dX1_pairsFit_35 : decode cX1_pairsFit 35 = .ok (.iaload, 1) := by decide +kernel
theorem dX1_pairsFit_36 : decode cX1_pairsFit 36 = .ok (.iload_n 3, 1) := by decide +kernel
theorem dX1_pairsFit_37 : decode cX1_pairsFit 37 = .ok (.iconst (-1), 1) := by decide +kernel
theorem dX1_pairsFit_38 : decode cX1_pairsFit 38 = .ok (.ixor, 1) := by decide +kernel
theorem dX1_pairsFit_39 : decode cX1_pairsFit 39 = .ok (.iand, 1) := by decide +kernel
theorem dX1_pairsFit_40 : decode cX1_pairsFit 40 = .ok (.ifCond .ne 14, 3) := by decide +kernel
theorem dX1_pairsFit_43 : decode cX1_pairsFit 43 = .ok (.aload_n 0, 1) := by decide +kernel
theorem dX1_pairsFit_44 : decode cX1_pairsFit 44 = .ok (.getfield 15, 3) := by decide +kernel
theorem dX1_pairsFit_47 : decode cX1_pairsFit 47 = .ok (.iload_n 2, 1) := by decide +kernel
theorem dX1_pairsFit_48 : decode cX1_pairsFit 48 = .ok (.iaload, 1) := by decide +kernel
theorem dX1_pairsFit_49 : decode cX1_pairsFit 49 = .ok (.iload_n 3, 1) := by decide +kernel
theorem dX1_pairsFit_50 : decode cX1_pairsFit 50 = .ok (.iand, 1) := by decide +kernel
theorem dX1_pairsFit_51 : decode cX1_pairsFit 51 = .ok (.ifCond .eq 5, 3) := by decide +kernel
theorem dX1_pairsFit_54 : decode cX1_pairsFit 54 = .ok (.iconst 0, 1) := by decide +kernel
theorem dX1_pairsFit_55 : decode cX1_pairsFit 55 = .ok (.ireturn, 1) := by decide +kernel
theorem dX1_pairsFit_56 : decode cX1_pairsFit 56 = .ok (.iinc 2 1, 3) := by decide +kernel
theorem dX1_pairsFit_59 : decode cX1_pairsFit 59 = .ok (.goto (-57), 3) := by decide +kernel
theorem dX1_pairsFit_62 : decode cX1_pairsFit 62 = .ok (.iconst 1, 1) := by decide +kernel
theorem dX1_pairsFit_63 : decode cX1_pairsFit 63 = .ok (.ireturn, 1) := by decide +kernel
theorem dX1_termsEqualTo_0 : decode cX1_termsEqualTo 0 = .ok (.iconst 0, 1) := by decide +kernel
theorem dX1_termsEqualTo_1 : decode cX1_termsEqualTo 1 = .ok (.istore_n 2, 1) := by decide +kernel
theorem dX1_termsEqualTo_2 : decode cX1_termsEqualTo 2 = .ok (.iconst 0, 1) := by decide +kernel
theorem dX1_termsEqualTo_3 : decode cX1_termsEqualTo 3 = .ok (.istore_n 3, 1) := by decide +kernel
theorem dX1_termsEqualTo_4 : decode cX1_termsEqualTo 4 = .ok (.iload_n 3, 1) := by decide +kernel
theorem dX1_termsEqualTo_5 : decode cX1_termsEqualTo 5 = .ok (.bipush 6, 2) := by decide +kernel
theorem dX1_termsEqualTo_7 : decode cX1_termsEqualTo 7 = .ok (.if_icmp .ge 24, 3) := by decide +kernel
theorem dX1_termsEqualTo_10 : decode cX1_termsEqualTo 10 = .ok (.aload_n 1, 1) := by decide +kernel
theorem dX1_termsEqualTo_11 : decode cX1_termsEqualTo 11 = .ok (.iload_n 3, 1) := by decide +kernel
theorem dX1_termsEqualTo_12 : decode cX1_termsEqualTo 12 = .ok (.iaload, 1) := by decide +kernel
theorem dX1_termsEqualTo_13 : decode cX1_termsEqualTo 13 = .ok (.aload_n 1, 1) := by decide +kernel
theorem dX1_termsEqualTo_14 : decode cX1_termsEqualTo 14 = .ok (.iload_n 0, 1) := by decide +kernel
theorem dX1_termsEqualTo_15 : decode cX1_termsEqualTo 15 = .ok (.iaload, 1) := by decide +kernel
theorem dX1_termsEqualTo_16 : decode cX1_termsEqualTo 16 = .ok (.if_icmp .ne 9, 3) := by decide +kernel
theorem dX1_termsEqualTo_19 : decode cX1_termsEqualTo 19 = .ok (.iload_n 2, 1) := by decide +kernel
theorem dX1_termsEqualTo_20 : decode cX1_termsEqualTo 20 = .ok (.iconst 1, 1) := by decide +kernel
theorem dX1_termsEqualTo_21 : decode cX1_termsEqualTo 21 = .ok (.iload_n 3, 1) := by decide +kernel
theorem dX1_termsEqualTo_22 : decode cX1_termsEqualTo 22 = .ok (.ishl, 1) := by decide +kernel
theorem dX1_termsEqualTo_23 : decode cX1_termsEqualTo 23 = .ok (.ior, 1) := by decide +kernel
theorem dX1_termsEqualTo_24 : decode cX1_termsEqualTo 24 = .ok (.istore_n 2, 1) := by decide +kernel
theorem dX1_termsEqualTo_25 : decode cX1_termsEqualTo 25 = .ok (.iinc 3 1, 3) := by decide +kernel
theorem dX1_termsEqualTo_28 : decode cX1_termsEqualTo 28 = .ok (.goto (-24), 3) := by decide +kernel
theorem dX1_termsEqualTo_31 : decode cX1_termsEqualTo 31 = .ok (.iload_n 2, 1) := by decide +kernel
theorem dX1_termsEqualTo_32 : decode cX1_termsEqualTo 32 = .ok (.ireturn, 1) := by decide +kernel
theorem dX2_removeAll_0 : decode cX2_removeAll 0 = .ok (.aload_n 0, 1) := by decide +kernel
theorem dX2_removeAll_1 : decode cX2_removeAll 1 = .ok (.getfield 19, 3) := by decide +kernel
theorem dX2_removeAll_4 : decode cX2_removeAll 4 = .ok (.iconst (-1), 1) := by decide +kernel
theorem dX2_removeAll_5 : decode cX2_removeAll 5 = .ok (.invokestatic 29, 3) := by decide +kernel
theorem dX2_removeAll_8 : decode cX2_removeAll 8 = .ok (.aload_n 0, 1) := by decide +kernel
theorem dX2_removeAll_9 : decode cX2_removeAll 9 = .ok (.iconst 0, 1) := by decide +kernel
theorem dX2_removeAll_10 : decode cX2_removeAll 10 = .ok (.putfield 39, 3) := by decide +kernel
theorem dX2_removeAll_13 : decode cX2_removeAll 13 = .ok (.return_, 1) := by decide +kernel
theorem dX2_hasCell_0 : decode cX2_hasCell 0 = .ok (.iload_n 1, 1) := by decide +kernel
theorem dX2_hasCell_1 : decode cX2_hasCell 1 = .ok (.iconst 1, 1) := by decide +kernel
theorem dX2_hasCell_2 : decode cX2_hasCell 2 = .ok (.if_icmp .lt 25, 3) := by decide +kernel
theorem dX2_hasCell_5 : decode cX2_hasCell 5 = .ok (.iload_n 1, 1) := by decide +kernel
theorem dX2_hasCell_6 : decode cX2_hasCell 6 = .ok (.aload_n 0, 1) := by decide +kernel
theorem dX2_hasCell_7 : decode cX2_hasCell 7 = .ok (.getfield 15, 3) := by decide +kernel
theorem dX2_hasCell_10 : decode cX2_hasCell 10 = .ok (.if_icmp .gt 17, 3) := by decide +kernel
theorem dX2_hasCell_13 : decode cX2_hasCell 13 = .ok (.aload_n 0, 1) := by decide +kernel
theorem dX2_hasCell_14 : decode cX2_hasCell 14 = .ok (.getfield 19, 3) := by decide +kernel
theorem dX2_hasCell_17 : decode cX2_hasCell 17 = .ok (.iload_n 1, 1) := by decide +kernel
theorem dX2_hasCell_18 : decode cX2_hasCell 18 = .ok (.iaload, 1) := by decide +kernel
theorem dX2_hasCell_19 : decode cX2_hasCell 19 = .ok (.iconst (-1), 1) := by decide +kernel
theorem dX2_hasCell_20 : decode cX2_hasCell 20 = .ok (.if_icmp .eq 7, 3) := by decide +kernel
theorem dX2_hasCell_23 : decode cX2_hasCell 23 = .ok (.iconst 1, 1) := by decide +kernel
theorem dX2_hasCell_24 : decode cX2_hasCell 24 = .ok (.goto 4, 3) := by decide +kernel
theorem dX2_hasCell_27 : decode cX2_hasCell 27 = .ok (.iconst 0, 1) := by decide +kernel
theorem dX2_hasCell_28 : decode cX2_hasCell 28 = .ok (.ireturn, 1) := by decide +kernel
theorem dX2_setStretch_0 : decode cX2_setStretch 0 = .ok (.aload_n 0, 1) := by decide +kernel
theorem dX2_setStretch_1 : decode cX2_setStretch 1 = .ok (.getfield 19, 3) := by decide +kernel
theorem dX2_setStretch_4 : decode cX2_setStretch 4 = .ok (.iload_n 1, 1) := by decide +kernel
theorem dX2_setStretch_5 : decode cX2_setStretch 5 = .ok (.iload_n 2, 1) := by decide +kernel
theorem dX2_setStretch_6 : decode cX2_setStretch 6 = .ok (.iastore, 1) := by decide +kernel
theorem dX2_setStretch_7 : decode cX2_setStretch 7 = .ok (.aload_n 0, 1) := by decide +kernel
theorem dX2_setStretch_8 : decode cX2_setStretch 8 = .ok (.getfield 22, 3) := by decide +kernel
theorem dX2_setStretch_11 : decode cX2_setStretch 11 = .ok (.iload_n 1, 1) := by decide +kernel
theorem dX2_setStretch_12 : decode cX2_setStretch 12 = .ok (.iload_n 3, 1) := by decide +kernel
theorem dX2_setStretch_13 : decode cX2_setStretch 13 = .ok (.bastore, 1) := by decide +kernel
theorem dX2_setStretch_14 : decode cX2_setStretch 14 = .ok (.aload_n 0, 1) := by decide +kernel
theorem dX2_setStretch_15 : decode cX2_setStretch 15 = .ok (.getfield 26, 3) := by decide +kernel
theorem dX2_setStretch_18 : decode cX2_setStretch 18 = .ok (.iload_n 1, 1) := by decide +kernel
theorem dX2_setStretch_19 : decode cX2_setStretch 19 = .ok (.iload 4, 2) := by decide +kernel
theorem dX2_setStretch_21 : decode cX2_setStretch 21 = .ok (.iastore, 1) := by decide +kernel
theorem dX2_setStretch_22 : decode cX2_setStretch 22 = .ok (.aload_n 0, 1) := by decide +kernel
theorem dX2_setStretch_23 : decode cX2_setStretch 23 = .ok (.dup, 1) := by decide +kernel
theorem dX2_setStretch_24 : decode cX2_setStretch 24 = .ok (.getfield 39, 3) := by decide +kernel
theorem dX2_setStretch_27 : decode cX2_setStretch 27 = .ok (.iload 4, 2) := by decide +kernel
theorem dX2_setStretch_29 : decode cX2_setStretch 29 = .ok (.ior, 1) := by decide +kernel
theorem dX2_setStretch_30 : decode cX2_setStretch 30 = .ok (.putfield 39, 3) := by decide +kernel
theorem dX2_setStretch_33 : decode cX2_setStretch 33 = .ok (.return_, 1) := by decide +kernel
theorem dX2_takenBy_0 : decode cX2_takenBy 0 = .ok (.aload_n 1, 1) := by decide +kernel
theorem dX2_takenBy_1 : decode cX2_takenBy 1 = .ok (.aload_n 0, 1) := by decide +kernel
theorem dX2_takenBy_2 : decode cX2_takenBy 2 = .ok (.getfield 9, 3) := by decide +kernel
theorem dX2_takenBy_5 : decode cX2_takenBy 5 = .ok (.invokevirtual 42, 3) := by decide +kernel
theorem dX2_takenBy_8 : decode cX2_takenBy 8 = .ok (.ifCond .ne 5, 3) := by decide +kernel
theorem dX2_takenBy_11 : decode cX2_takenBy 11 = .ok (.iconst (-1), 1) := by decide +kernel
theorem dX2_takenBy_12 : decode cX2_takenBy 12 = .ok (.ireturn, 1) := by decide +kernel
theorem dX2_takenBy_13 : decode cX2_takenBy 13 = .ok (.iconst 0, 1) := by decide +kernel
theorem dX2_takenBy_14 : decode cX2_takenBy 14 = .ok (.istore_n 2, 1) := by decide +kernel
theorem dX2_takenBy_15 : decode cX2_takenBy 15 = .ok (.iconst 0, 1) := by decide +kernel
theorem dX2_takenBy_16 : decode cX2_takenBy 16 = .ok (.istore_n 3, 1) := by decide +kernel
theorem dX2_takenBy_17 : decode cX2_takenBy 17 = .ok (.iload_n 3, 1) := by decide +kernel
theorem dX2_takenBy_18 : decode cX2_takenBy 18 = .ok (.aload_n 1, 1) := by decide +kernel
theorem dX2_takenBy_19 : decode cX2_takenBy 19 = .ok (.getfield 48, 3) := by decide +kernel
theorem dX2_takenBy_22 : decode cX2_takenBy 22 = .ok (.if_icmp .ge 85, 3) := by decide +kernel
theorem dX2_takenBy_25 : decode cX2_takenBy 25 = .ok (.aload_n 0, 1) := by decide +kernel
theorem dX2_takenBy_26 : decode cX2_takenBy 26 = .ok (.getfield 9, 3) := by decide +kernel
theorem dX2_takenBy_29 : decode cX2_takenBy 29 = .ok (.aload_n 1, 1) := by decide +kernel
theorem dX2_takenBy_30 : decode cX2_takenBy 30 = .ok (.getfield 51, 3) := by decide +kernel
theorem dX2_takenBy_33 : decode cX2_takenBy 33 = .ok (.iload_n 3, 1) := by decide +kernel
theorem dX2_takenBy_34 : decode cX2_takenBy 34 = .ok (.iaload, 1) := by decide +kernel
theorem dX2_takenBy_35 : decode cX2_takenBy 35 = .ok (.iaload, 1) := by decide +kernel
theorem dX2_takenBy_36 : decode cX2_takenBy 36 = .ok (.istore 4, 2) := by decide +kernel
theorem dX2_takenBy_38 : decode cX2_takenBy 38 = .ok (.aload_n 0, 1) := by decide +kernel
theorem dX2_takenBy_39 : decode cX2_takenBy 39 = .ok (.getfield 9, 3) := by decide +kernel
theorem dX2_takenBy_42 : decode cX2_takenBy 42 = .ok (.aload_n 1, 1) := by decide +kernel
theorem dX2_takenBy_43 : decode cX2_takenBy 43 = .ok (.getfield 54, 3) := by decide +kernel
theorem dX2_takenBy_46 : decode cX2_takenBy 46 = .ok (.iload_n 3, 1) := by decide +kernel
theorem dX2_takenBy_47 : decode cX2_takenBy 47 = .ok (.iaload, 1) := by decide +kernel
theorem dX2_takenBy_48 : decode cX2_takenBy 48 = .ok (.iaload, 1) := by decide +kernel
theorem dX2_takenBy_49 : decode cX2_takenBy 49 = .ok (.istore 5, 2) := by decide +kernel
theorem dX2_takenBy_51 : decode cX2_takenBy 51 = .ok (.aload_n 1, 1) := by decide +kernel
theorem dX2_takenBy_52 : decode cX2_takenBy 52 = .ok (.getfield 57, 3) := by decide +kernel
theorem dX2_takenBy_55 : decode cX2_takenBy 55 = .ok (.iload_n 3, 1) := by decide +kernel
theorem dX2_takenBy_56 : decode cX2_takenBy 56 = .ok (.baload, 1) := by decide +kernel
theorem dX2_takenBy_57 : decode cX2_takenBy 57 = .ok (.ifCond .eq 14, 3) := by decide +kernel
theorem dX2_takenBy_60 : decode cX2_takenBy 60 = .ok (.aload_n 0, 1) := by decide +kernel
theorem dX2_takenBy_61 : decode cX2_takenBy 61 = .ok (.iload 4, 2) := by decide +kernel
theorem dX2_takenBy_63 : decode cX2_takenBy 63 = .ok (.iload 5, 2) := by decide +kernel
theorem dX2_takenBy_65 : decode cX2_takenBy 65 = .ok (.invokevirtual 60, 3) := by decide +kernel
theorem dX2_takenBy_68 : decode cX2_takenBy 68 = .ok (.goto 11, 3) := by decide +kernel
theorem dX2_takenBy_71 : decode cX2_takenBy 71 = .ok (.aload_n 0, 1) := by decide +kernel
theorem dX2_takenBy_72 : decode cX2_takenBy 72 = .ok (.iload 4, 2) := by decide +kernel
theorem dX2_takenBy_74 : decode cX2_takenBy 74 = .ok (.iload 5, 2) := by decide +kernel
theorem dX2_takenBy_76 : decode cX2_takenBy 76 = .ok (.invokevirtual 64, 3) := by decide +kernel
theorem dX2_takenBy_79 : decode cX2_takenBy 79 = .ok (.istore 6, 2) := by decide +kernel
theorem dX2_takenBy_81 : decode cX2_takenBy 81 = .ok (.iload 6, 2) := by decide +kernel
theorem dX2_takenBy_83 : decode cX2_takenBy 83 = .ok (.iconst (-1), 1) := by decide +kernel
theorem dX2_takenBy_84 : decode cX2_takenBy 84 = .ok (.if_icmp .eq 10, 3) := by decide +kernel
theorem dX2_takenBy_87 : decode cX2_takenBy 87 = .ok (.iload 6, 2) := by decide +kernel
theorem dX2_takenBy_89 : decode cX2_takenBy 89 = .ok (.iload_n 2, 1) := by decide +kernel
theorem dX2_takenBy_90 : decode cX2_takenBy 90 = .ok (.iand, 1) := by decide +kernel
theorem dX2_takenBy_91 : decode cX2_takenBy 91 = .ok (.ifCond .eq 5, 3) := by decide +kernel
theorem dX2_takenBy_94 : decode cX2_takenBy 94 = .ok (.iconst (-1), 1) := by decide +kernel
theorem dX2_takenBy_95 : decode cX2_takenBy 95 = .ok (.ireturn, 1) := by decide +kernel
theorem dX2_takenBy_96 : decode cX2_takenBy 96 = .ok (.iload_n 2, 1) := by decide +kernel
theorem dX2_takenBy_97 : decode cX2_takenBy 97 = .ok (.iload 6, 2) := by decide +kernel
theorem dX2_takenBy_99 : decode cX2_takenBy 99 = .ok (.ior, 1) := by decide +kernel
theorem dX2_takenBy_100 : decode cX2_takenBy 100 = .ok (.istore_n 2, 1) := by decide +kernel
theorem dX2_takenBy_101 : decode cX2_takenBy 101 = .ok (.iinc 3 1, 3) := by decide +kernel
theorem dX2_takenBy_104 : decode cX2_takenBy 104 = .ok (.goto (-87), 3) := by decide +kernel
theorem dX2_takenBy_107 : decode cX2_takenBy 107 = .ok (.iload_n 2, 1) := by decide +kernel
theorem dX2_takenBy_108 : decode cX2_takenBy 108 = .ok (.ireturn, 1) := by decide +kernel
theorem dX2_takenByList_0 : decode cX2_takenByList 0 = .ok (.iload_n 2, 1) := by decide +kernel
theorem dX2_takenByList_1 : decode cX2_takenByList 1 = .ok (.ifCond .eq 15, 3) := by decide +kernel
theorem dX2_takenByList_4 : decode cX2_takenByList 4 = .ok (.aload_n 0, 1) := by decide +kernel
theorem dX2_takenByList_5 : decode cX2_takenByList 5 = .ok (.iload_n 2, 1) := by decide +kernel
theorem dX2_takenByList_6 : decode cX2_takenByList 6 = .ok (.invokevirtual 67, 3) := by decide +kernel
theorem dX2_takenByList_9 : decode cX2_takenByList 9 = .ok (.ifCond .ne 7, 3) := by decide +kernel
theorem dX2_takenByList_12 : decode cX2_takenByList 12 = .ok (.iconst 1, 1) := by decide +kernel
theorem dX2_takenByList_13 : decode cX2_takenByList 13 = .ok (.goto 4, 3) := by decide +kernel
theorem dX2_takenByList_16 : decode cX2_takenByList 16 = .ok (.iconst 0, 1) := by decide +kernel
theorem dX2_takenByList_17 : decode cX2_takenByList 17 = .ok (.istore_n 3, 1) := by decide +kernel
theorem dX2_takenByList_18 : decode cX2_takenByList 18 = .ok (.iconst 0, 1) := by decide +kernel
theorem dX2_takenByList_19 : decode cX2_takenByList 19 = .ok (.istore 4, 2) := by decide +kernel
theorem dX2_takenByList_21 : decode cX2_takenByList 21 = .ok (.iload_n 1, 1) := by decide +kernel
theorem dX2_takenByList_22 : decode cX2_takenByList 22 = .ok (.istore 5, 2) := by decide +kernel
theorem dX2_takenByList_24 : decode cX2_takenByList 24 = .ok (.iconst 0, 1) := by decide +kernel
theorem dX2_takenByList_25 : decode cX2_takenByList 25 = .ok (.istore 6, 2) := by decide +kernel
theorem dX2_takenByList_27 : decode cX2_takenByList 27 = .ok (.iload 6, 2) := by decide +kernel
theorem dX2_takenByList_29 : decode cX2_takenByList 29 = .ok (.aload_n 0, 1) := by decide +kernel
theorem dX2_takenByList_30 : decode cX2_takenByList 30 = .ok (.getfield 15, 3) := by decide +kernel
theorem dX2_takenByList_33 : decode cX2_takenByList 33 = .ok (.if_icmp .ge 74, 3) := by decide +kernel
theorem dX2_takenByList_36 : decode cX2_takenByList 36 = .ok (.iload 5, 2) := by decide +kernel
theorem dX2_takenByList_38 : decode cX2_takenByList 38 = .ok (.iload_n 2, 1) := by decide +kernel
theorem dX2_takenByList_39 : decode cX2_takenByList 39 = .ok (.if_icmp .eq 68, 3) := by decide +kernel
theorem dX2_takenByList_42 : decode cX2_takenByList 42 = .ok (.aload_n 0, 1) := by decide +kernel
theorem dX2_takenByList_43 : decode cX2_takenByList 43 = .ok (.iload 5, 2) := by decide +kernel
theorem dX2_takenByList_45 : decode cX2_takenByList 45 = .ok (.invokevirtual 67, 3) := by decide +kernel
theorem dX2_takenByList_48 : decode cX2_takenByList 48 = .ok (.ifCond .ne 5, 3) := by decide +kernel
theorem dX2_takenByList_51 : decode cX2_takenByList 51 = .ok (.iconst (-1), 1) := by decide +kernel
theorem dX2_takenByList_52 : decode cX2_takenByList 52 = .ok (.ireturn, 1) := by decide +kernel
theorem dX2_takenByList_53 : decode cX2_takenByList 53 = .ok (.iload_n 3, 1) := by decide +kernel
theorem dX2_takenByList_54 : decode cX2_takenByList 54 = .ok (.ifCond .eq 26, 3) := by decide +kernel
theorem dX2_takenByList_57 : decode cX2_takenByList 57 = .ok (.aload_n 0, 1) := by decide +kernel
theorem dX2_takenByList_58 : decode cX2_takenByList 58 = .ok (.getfield 22, 3) := by decide +kernel
theorem dX2_takenByList_61 : decode cX2_takenByList 61 = .ok (.iload 5, 2) := by decide +kernel
theorem dX2_takenByList_63 : decode cX2_takenByList 63 = .ok (.baload, 1) := by decide +kernel
theorem dX2_takenByList_64 : decode cX2_takenByList 64 = .ok (.ifCond .eq 16, 3) := by decide +kernel
theorem dX2_takenByList_67 : decode cX2_takenByList 67 = .ok (.aload_n 0, 1) := by decide +kernel
theorem dX2_takenByList_68 : decode cX2_takenByList 68 = .ok (.getfield 19, 3) := by decide +kernel
theorem dX2_takenByList_71 : decode cX2_takenByList 71 = .ok (.iload 5, 2) := by decide +kernel
theorem dX2_takenByList_73 : decode cX2_takenByList 73 = .ok (.iaload, 1) := by decide +kernel
theorem dX2_takenByList_74 : decode cX2_takenByList 74 = .ok (.iload_n 2, 1) := by decide +kernel
theorem dX2_takenByList_75 : decode cX2_takenByList 75 = .ok (.if_icmp .eq 5, 3) := by decide +kernel
theorem dX2_takenByList_78 : decode cX2_takenByList 78 = .ok (.iconst (-1), 1) := by decide +kernel
theorem dX2_takenByList_79 : decode cX2_takenByList 79 = .ok (.ireturn, 1) := by decide +kernel
theorem dX2_takenByList_80 : decode cX2_takenByList 80 = .ok (.iload 4, 2) := by decide +kernel
theorem dX2_takenByList_82 : decode cX2_takenByList 82 = .ok (.aload_n 0, 1) := by decide +kernel
theorem dX2_takenByList_83 : decode cX2_takenByList 83 = .ok (.getfield 26, 3) := by decide +kernel
theorem dX2_takenByList_86 : decode cX2_takenByList 86 = .ok (.iload 5, 2) := by decide +kernel
theorem dX2_takenByList_88 : decode cX2_takenByList 88 = .ok (.iaload, 1) := by decide +kernel
theorem dX2_takenByList_89 : decode cX2_takenByList 89 = .ok (.ior, 1) := by decide +kernel
theorem dX2_takenByList_90 : decode cX2_takenByList 90 = .ok (.istore 4, 2) := by decide +kernel
theorem dX2_takenByList_92 : decode cX2_takenByList 92 = .ok (.aload_n 0, 1) := by decide +kernel
theorem dX2_takenByList_93 : decode cX2_takenByList 93 = .ok (.getfield 19, 3) := by decide +kernel
theorem dX2_takenByList_96 : decode cX2_takenByList 96 = .ok (.iload 5, 2) := by decide +kernel
theorem dX2_takenByList_98 : decode cX2_takenByList 98 = .ok (.iaload, 1) := by decide +kernel
theorem dX2_takenByList_99 : decode cX2_takenByList 99 = .ok (.istore 5, 2) := by decide +kernel
theorem dX2_takenByList_101 : decode cX2_takenByList 101 = .ok (.iinc 6 1, 3) := by decide +kernel
theorem dX2_takenByList_104 : decode cX2_takenByList 104 = .ok (.goto (-77), 3) := by decide +kernel
theorem dX2_takenByList_107 : decode cX2_takenByList 107 = .ok (.iload 5, 2) := by decide +kernel
theorem dX2_takenByList_109 : decode cX2_takenByList 109 = .ok (.iload_n 2, 1) := by decide +kernel
theorem dX2_takenByList_110 : decode cX2_takenByList 110 = .ok (.if_icmp .ne 8, 3) := by decide +kernel
theorem dX2_takenByList_113 : decode cX2_takenByList 113 = .ok (.iload 4, 2) := by decide +kernel
theorem dX2_takenByList_115 : decode cX2_takenByList 115 = .ok (.goto 4, 3) := by decide +kernel
theorem dX2_takenByList_118 : decode cX2_takenByList 118 = .ok (.iconst (-1), 1) := by decide +kernel
theorem dX2_takenByList_119 : decode cX2_takenByList 119 = .ok (.ireturn, 1) := by decide +kernel
theorem dX2_takenByCell_0 : decode cX2_takenByCell 0 = .ok (.aload_n 0, 1) := by decide +kernel
theorem dX2_takenByCell_1 : decode cX2_takenByCell 1 = .ok (.iload_n 1, 1) := by decide +kernel
theorem dX2_takenByCell_2 : decode cX2_takenByCell 2 = .ok (.invokevirtual 67, 3) := by decide +kernel
theorem dX2_takenByCell_5 : decode cX2_takenByCell 5 = .ok (.ifCond .eq 22, 3) := by decide +kernel
theorem dX2_takenByCell_8 : decode cX2_takenByCell 8 = .ok (.aload_n 0, 1) := by decide +kernel
theorem dX2_takenByCell_9 : decode cX2_takenByCell 9 = .ok (.getfield 22, 3) := by decide +kernel
theorem dX2_takenByCell_12 : decode cX2_takenByCell 12 = .ok (.iload_n 1, 1) := by decide +kernel
theorem dX2_takenByCell_13 : decode cX2_takenByCell 13 = .ok (.baload, 1) := by decide +kernel
theorem dX2_takenByCell_14 : decode cX2_takenByCell 14 = .ok (.ifCond .ne 13, 3) := by decide +kernel
theorem dX2_takenByCell_17 : decode cX2_takenByCell 17 = .ok (.aload_n 0, 1) := by decide +kernel
theorem dX2_takenByCell_18 : decode cX2_takenByCell 18 = .ok (.getfield 19, 3) := by decide +kernel
theorem dX2_takenByCell_21 : decode cX2_takenByCell 21 = .ok (.iload_n 1, 1) := by decide +kernel
theorem dX2_takenByCell_22 : decode cX2_takenByCell 22 = .ok (.iaload, 1) := by decide +kernel
theorem dX2_takenByCell_23 : decode cX2_takenByCell 23 = .ok (.iload_n 2, 1) := by decide +kernel
theorem dX2_takenByCell_24 : decode cX2_takenByCell 24 = .ok (.if_icmp .eq 5, 3) := by decide +kernel
theorem dX2_takenByCell_27 : decode cX2_takenByCell 27 = .ok (.iconst (-1), 1) := by decide +kernel
theorem dX2_takenByCell_28 : decode cX2_takenByCell 28 = .ok (.ireturn, 1) := by decide +kernel
theorem dX2_takenByCell_29 : decode cX2_takenByCell 29 = .ok (.aload_n 0, 1) := by decide +kernel
theorem dX2_takenByCell_30 : decode cX2_takenByCell 30 = .ok (.getfield 26, 3) := by decide +kernel
theorem dX2_takenByCell_33 : decode cX2_takenByCell 33 = .ok (.iload_n 1, 1) := by decide +kernel
theorem dX2_takenByCell_34 : decode cX2_takenByCell 34 = .ok (.iaload, 1) := by decide +kernel
theorem dX2_takenByCell_35 : decode cX2_takenByCell 35 = .ok (.ireturn, 1) := by decide +kernel
theorem dX0_advance_0 : decode cX0_advance 0 = .ok (.aload_n 0, 1) := by decide +kernel
theorem dX0_advance_1 : decode cX0_advance 1 = .ok (.getfield 14, 3) := by decide +kernel
theorem dX0_advance_4 : decode cX0_advance 4 = .ok (.getfield 24, 3) := by decide +kernel
theorem dX0_advance_7 : decode cX0_advance 7 = .ok (.astore_n 1, 1) := by decide +kernel
theorem dX0_advance_8 : decode cX0_advance 8 = .ok (.iconst 4, 1) := by decide +kernel
theorem dX0_advance_9 : decode cX0_advance 9 = .ok (.istore_n 2, 1) := by decide +kernel
theorem dX0_advance_10 : decode cX0_advance 10 = .ok (.iload_n 2, 1) := by decide +kernel
theorem dX0_advance_11 : decode cX0_advance 11 = .ok (.ifCond .lt 44, 3) := by decide +kernel
theorem dX0_advance_14 : decode cX0_advance 14 = .ok (.aload_n 0, 1) := by decide +kernel
theorem dX0_advance_15 : decode cX0_advance 15 = .ok (.getfield 20, 3) := by decide +kernel
theorem dX0_advance_18 : decode cX0_advance 18 = .ok (.iconst 1, 1) := by decide +kernel
theorem dX0_advance_19 : decode cX0_advance 19 = .ok (.iload_n 2, 1) := by decide +kernel
theorem dX0_advance_20 : decode cX0_advance 20 = .ok (.ishl, 1) := by decide +kernel
theorem dX0_advance_21 : decode cX0_advance 21 = .ok (.iand, 1) := by decide +kernel
theorem dX0_advance_22 : decode cX0_advance 22 = .ok (.ifCond .eq 27, 3) := by decide +kernel
theorem dX0_advance_25 : decode cX0_advance 25 = .ok (.aload_n 1, 1) := by decide +kernel
theorem dX0_advance_26 : decode cX0_advance 26 = .ok (.iload_n 2, 1) := by decide +kernel
theorem dX0_advance_27 : decode cX0_advance 27 = .ok (.iaload, 1) := by decide +kernel
theorem dX0_advance_28 : decode cX0_advance 28 = .ok (.aload_n 0, 1) := by decide +kernel
theorem dX0_advance_29 : decode cX0_advance 29 = .ok (.iload_n 2, 1) := by decide +kernel
theorem dX0_advance_30 : decode cX0_advance 30 = .ok (.invokevirtual 34, 3) := by decide +kernel
theorem dX0_advance_33 : decode cX0_advance 33 = .ok (.if_icmp .gt 12, 3) := by decide +kernel
theorem dX0_advance_36 : decode cX0_advance 36 = .ok (.aload_n 1, 1) := by decide +kernel
theorem dX0_advance_37 : decode cX0_advance 37 = .ok (.iload_n 2, 1) := by decide +kernel
theorem dX0_advance_38 : decode cX0_advance 38 = .ok (.dup2, 1) := by decide +kernel
theorem dX0_advance_39 : decode cX0_advance 39 = .ok (.iaload, 1) := by decide +kernel
theorem dX0_advance_40 : decode cX0_advance 40 = .ok (.iconst 1, 1) := by decide +kernel
theorem dX0_advance_41 : decode cX0_advance 41 = .ok (.iadd, 1) := by decide +kernel
theorem dX0_advance_42 : decode cX0_advance 42 = .ok (.iastore, 1) := by decide +kernel
theorem dX0_advance_43 : decode cX0_advance 43 = .ok (.iconst 1, 1) := by decide +kernel
theorem dX0_advance_44 : decode cX0_advance 44 = .ok (.ireturn, 1) := by decide +kernel
theorem dX0_advance_45 : decode cX0_advance 45 = .ok (.aload_n 1, 1) := by decide +kernel
theorem dX0_advance_46 : decode cX0_advance 46 = .ok (.iload_n 2, 1) := by decide +kernel
theorem dX0_advance_47 : decode cX0_advance 47 = .ok (.iconst 0, 1) := by decide +kernel
theorem dX0_advance_48 : decode cX0_advance 48 = .ok (.iastore, 1) := by decide +kernel
theorem dX0_advance_49 : decode cX0_advance 49 = .ok (.iinc 2 (-1), 3) := by decide +kernel
theorem dX0_advance_52 : decode cX0_advance 52 = .ok (.goto (-42), 3) := by decide +kernel
theorem dX0_advance_55 : decode cX0_advance 55 = .ok (.iconst 0, 1) := by decide +kernel
theorem dX0_advance_56 : decode cX0_advance 56 = .ok (.ireturn, 1) := by decide +kernel
theorem dX0_greatestBefore_0 : decode cX0_greatestBefore 0 = .ok (.iconst 0, 1) := by decide +kernel
theorem dX0_greatestBefore_1 : decode cX0_greatestBefore 1 = .ok (.istore_n 2, 1) := by decide +kernel
theorem dX0_greatestBefore_2 : decode cX0_greatestBefore 2 = .ok (.iconst 0, 1) := by decide +kernel
theorem dX0_greatestBefore_3 : decode cX0_greatestBefore 3 = .ok (.istore_n 3, 1) := by decide +kernel
theorem dX0_greatestBefore_4 : decode cX0_greatestBefore 4 = .ok (.iload_n 3, 1) := by decide +kernel
theorem dX0_greatestBefore_5 : decode cX0_greatestBefore 5 = .ok (.iload_n 1, 1) := by decide +kernel
theorem dX0_greatestBefore_6 : decode cX0_greatestBefore 6 = .ok (.if_icmp .ge 23, 3) := by decide +kernel
theorem dX0_greatestBefore_9 : decode cX0_greatestBefore 9 = .ok (.iload_n 2, 1) := by decide +kernel
theorem dX0_greatestBefore_10 : decode cX0_greatestBefore 10 = .ok (.aload_n 0, 1) := by decide +kernel
theorem dX0_greatestBefore_11 : decode cX0_greatestBefore 11 = .ok (.getfield 14, 3) := by decide +kernel
theorem dX0_greatestBefore_14 : decode cX0_greatestBefore 14 = .ok (.getfield 24, 3) := by decide +kernel
theorem dX0_greatestBefore_17 : decode cX0_greatestBefore 17 = .ok (.iload_n 3, 1) := by decide +kernel
theorem dX0_greatestBefore_18 : decode cX0_greatestBefore 18 = .ok (.iaload, 1) := by decide +kernel
theorem dX0_greatestBefore_19 : decode cX0_greatestBefore 19 = .ok (.invokestatic 38, 3) := by decide +kernel
theorem dX0_greatestBefore_22 : decode cX0_greatestBefore 22 = .ok (.istore_n 2, 1) := by decide +kernel
theorem dX0_greatestBefore_23 : decode cX0_greatestBefore 23 = .ok (.iinc 3 1, 3) := by decide +kernel
theorem dX0_greatestBefore_26 : decode cX0_greatestBefore 26 = .ok (.goto (-22), 3) := by decide +kernel
theorem dX0_greatestBefore_29 : decode cX0_greatestBefore 29 = .ok (.iload_n 2, 1) := by decide +kernel
theorem dX0_greatestBefore_30 : decode cX0_greatestBefore 30 = .ok (.ireturn, 1) := by decide +kernel
theorem dJ6_bitCount_0 : decode cJ6_bitCount 0 = .ok (.iload_n 0, 1) := by decide +kernel
theorem dJ6_bitCount_1 : decode cJ6_bitCount 1 = .ok (.iload_n 0, 1) := by decide +kernel
theorem dJ6_bitCount_2 : decode cJ6_bitCount 2 = .ok (.iconst 1, 1) := by decide +kernel
theorem dJ6_bitCount_3 : decode cJ6_bitCount 3 = .ok (.iushr, 1) := by decide +kernel
theorem dJ6_bitCount_4 : decode cJ6_bitCount 4 = .ok (.ldc_w 265, 3) := by decide +kernel
theorem dJ6_bitCount_7 : decode cJ6_bitCount 7 = .ok (.iand, 1) := by decide +kernel
theorem dJ6_bitCount_8 : decode cJ6_bitCount 8 = .ok (.isub, 1) := by decide +kernel
theorem dJ6_bitCount_9 : decode cJ6_bitCount 9 = .ok (.istore_n 0, 1) := by decide +kernel
theorem dJ6_bitCount_10 : decode cJ6_bitCount 10 = .ok (.iload_n 0, 1) := by decide +kernel
theorem dJ6_bitCount_11 : decode cJ6_bitCount 11 = .ok (.ldc_w 266, 3) := by decide +kernel
theorem dJ6_bitCount_14 : decode cJ6_bitCount 14 = .ok (.iand, 1) := by decide +kernel
theorem dJ6_bitCount_15 : decode cJ6_bitCount 15 = .ok (.iload_n 0, 1) := by decide +kernel
theorem dJ6_bitCount_16 : decode cJ6_bitCount 16 = .ok (.iconst 2, 1) := by decide +kernel
theorem dJ6_bitCount_17 : decode cJ6_bitCount 17 = .ok (.iushr, 1) := by decide +kernel
theorem dJ6_bitCount_18 : decode cJ6_bitCount 18 = .ok (.ldc_w 266, 3) := by decide +kernel
theorem dJ6_bitCount_21 : decode cJ6_bitCount 21 = .ok (.iand, 1) := by decide +kernel
theorem dJ6_bitCount_22 : decode cJ6_bitCount 22 = .ok (.iadd, 1) := by decide +kernel
theorem dJ6_bitCount_23 : decode cJ6_bitCount 23 = .ok (.istore_n 0, 1) := by decide +kernel
theorem dJ6_bitCount_24 : decode cJ6_bitCount 24 = .ok (.iload_n 0, 1) := by decide +kernel
theorem dJ6_bitCount_25 : decode cJ6_bitCount 25 = .ok (.iload_n 0, 1) := by decide +kernel
theorem dJ6_bitCount_26 : decode cJ6_bitCount 26 = .ok (.iconst 4, 1) := by decide +kernel
theorem dJ6_bitCount_27 : decode cJ6_bitCount 27 = .ok (.iushr, 1) := by decide +kernel
theorem dJ6_bitCount_28 : decode cJ6_bitCount 28 = .ok (.iadd, 1) := by decide +kernel
theorem dJ6_bitCount_29 : decode cJ6_bitCount 29 = .ok (.ldc_w 267, 3) := by decide +kernel
theorem dJ6_bitCount_32 : decode cJ6_bitCount 32 = .ok (.iand, 1) := by decide +kernel
theorem dJ6_bitCount_33 : decode cJ6_bitCount 33 = .ok (.istore_n 0, 1) := by decide +kernel
theorem dJ6_bitCount_34 : decode cJ6_bitCount 34 = .ok (.iload_n 0, 1) := by decide +kernel
theorem dJ6_bitCount_35 : decode cJ6_bitCount 35 = .ok (.iload_n 0, 1) := by decide +kernel
theorem dJ6_bitCount_36 : decode cJ6_bitCount 36 = .ok (.bipush 8, 2) := by decide +kernel
theorem dJ6_bitCount_38 : decode cJ6_bitCount 38 = .ok (.iushr, 1) := by decide +kernel
theorem dJ6_bitCount_39 : decode cJ6_bitCount 39 = .ok (.iadd, 1) := by decide +kernel
theorem dJ6_bitCount_40 : decode cJ6_bitCount 40 = .ok (.istore_n 0, 1) := by decide +kernel
theorem dJ6_bitCount_41 : decode cJ6_bitCount 41 = .ok (.iload_n 0, 1) := by decide +kernel
theorem dJ6_bitCount_42 : decode cJ6_bitCount 42 = .ok (.iload_n 0, 1) := by decide +kernel
theorem dJ6_bitCount_43 : decode cJ6_bitCount 43 = .ok (.bipush 16, 2) := by decide +kernel
theorem dJ6_bitCount_45 : decode cJ6_bitCount 45 = .ok (.iushr, 1) := by decide +kernel
theorem dJ6_bitCount_46 : decode cJ6_bitCount 46 = .ok (.iadd, 1) := by decide +kernel
theorem dJ6_bitCount_47 : decode cJ6_bitCount 47 = .ok (.istore_n 0, 1) := by decide +kernel
theorem dJ6_bitCount_48 : decode cJ6_bitCount 48 = .ok (.iload_n 0, 1) := by decide +kernel
theorem dJ6_bitCount_49 : decode cJ6_bitCount 49 = .ok (.bipush 63, 2) := by decide +kernel
theorem dJ6_bitCount_51 : decode cJ6_bitCount 51 = .ok (.iand, 1) := by decide +kernel
theorem dJ6_bitCount_52 : decode cJ6_bitCount 52 = .ok (.ireturn, 1) := by decide +kernel
theorem dX1_addPair_0 : decode cX1_addPair 0 = .ok (.iload_n 3, 1) := by decide +kernel
theorem dX1_addPair_1 : decode cX1_addPair 1 = .ok (.ifCond .eq 18, 3) := by decide +kernel
theorem dX1_addPair_4 : decode cX1_addPair 4 = .ok (.aload_n 0, 1) := by decide +kernel
theorem dX1_addPair_5 : decode cX1_addPair 5 = .ok (.getfield 15, 3) := by decide +kernel
theorem dX1_addPair_8 : decode cX1_addPair 8 = .ok (.iload_n 1, 1) := by decide +kernel
theorem dX1_addPair_9 : decode cX1_addPair 9 = .ok (.dup2, 1) := by decide +kernel
theorem dX1_addPair_10 : decode cX1_addPair 10 = .ok (.iaload, 1) := by decide +kernel
theorem dX1_addPair_11 : decode cX1_addPair 11 = .ok (.iconst 1, 1) := by decide +kernel
theorem dX1_addPair_12 : decode cX1_addPair 12 = .ok (.iload_n 2, 1) := by decide +kernel
theorem dX1_addPair_13 : decode cX1_addPair 13 = .ok (.ishl, 1) := by decide +kernel
theorem dX1_addPair_14 : decode cX1_addPair 14 = .ok (.ior, 1) := by decide +kernel
theorem dX1_addPair_15 : decode cX1_addPair 15 = .ok (.iastore, 1) := by decide +kernel
theorem dX1_addPair_16 : decode cX1_addPair 16 = .ok (.goto 15, 3) := by decide +kernel
theorem dX1_addPair_19 : decode cX1_addPair 19 = .ok (.aload_n 0, 1) := by decide +kernel
theorem dX1_addPair_20 : decode cX1_addPair 20 = .ok (.getfield 9, 3) := by decide +kernel
theorem dX1_addPair_23 : decode cX1_addPair 23 = .ok (.iload_n 1, 1) := by decide +kernel
theorem dX1_addPair_24 : decode cX1_addPair 24 = .ok (.dup2, 1) := by decide +kernel
theorem dX1_addPair_25 : decode cX1_addPair 25 = .ok (.iaload, 1) := by decide +kernel
theorem dX1_addPair_26 : decode cX1_addPair 26 = .ok (.iconst 1, 1) := by decide +kernel
theorem dX1_addPair_27 : decode cX1_addPair 27 = .ok (.iload_n 2, 1) := by decide +kernel
theorem dX1_addPair_28 : decode cX1_addPair 28 = .ok (.ishl, 1) := by decide +kernel
theorem dX1_addPair_29 : decode cX1_addPair 29 = .ok (.ior, 1) := by decide +kernel
theorem dX1_addPair_30 : decode cX1_addPair 30 = .ok (.iastore, 1) := by decide +kernel
theorem dX1_addPair_31 : decode cX1_addPair 31 = .ok (.aload_n 0, 1) := by decide +kernel
theorem dX1_addPair_32 : decode cX1_addPair 32 = .ok (.dup, 1) := by decide +kernel
theorem dX1_addPair_33 : decode cX1_addPair 33 = .ok (.getfield 28, 3) := by decide +kernel
theorem dX1_addPair_36 : decode cX1_addPair 36 = .ok (.iconst 1, 1) := by decide +kernel
theorem dX1_addPair_37 : decode cX1_addPair 37 = .ok (.iload_n 1, 1) := by decide +kernel
theorem dX1_addPair_38 : decode cX1_addPair 38 = .ok (.ishl, 1) := by decide +kernel
theorem dX1_addPair_39 : decode cX1_addPair 39 = .ok (.iconst 1, 1) := by decide +kernel
theorem dX1_addPair_40 : decode cX1_addPair 40 = .ok (.iload_n 2, 1) := by decide +kernel
theorem dX1_addPair_41 : decode cX1_addPair 41 = .ok (.ishl, 1) := by decide +kernel
theorem dX1_addPair_42 : decode cX1_addPair 42 = .ok (.ior, 1) := by decide +kernel
theorem dX1_addPair_43 : decode cX1_addPair 43 = .ok (.ior, 1) := by decide +kernel
theorem dX1_addPair_44 : decode cX1_addPair 44 = .ok (.putfield 28, 3) := by decide +kernel
theorem dX1_addPair_47 : decode cX1_addPair 47 = .ok (.return_, 1) := by decide +kernel
theorem dX1_addPiece_0 : decode cX1_addPiece 0 = .ok (.aload_n 0, 1) := by decide +kernel
theorem dX1_addPiece_1 : decode cX1_addPiece 1 = .ok (.getfield 18, 3) := by decide +kernel
theorem dX1_addPiece_4 : decode cX1_addPiece 4 = .ok (.aload_n 0, 1) := by decide +kernel
theorem dX1_addPiece_5 : decode cX1_addPiece 5 = .ok (.getfield 32, 3) := by decide +kernel
theorem dX1_addPiece_8 : decode cX1_addPiece 8 = .ok (.iload_n 1, 1) := by decide +kernel
theorem dX1_addPiece_9 : decode cX1_addPiece 9 = .ok (.iastore, 1) := by decide +kernel
theorem dX1_addPiece_10 : decode cX1_addPiece 10 = .ok (.aload_n 0, 1) := by decide +kernel
theorem dX1_addPiece_11 : decode cX1_addPiece 11 = .ok (.getfield 21, 3) := by decide +kernel
theorem dX1_addPiece_14 : decode cX1_addPiece 14 = .ok (.aload_n 0, 1) := by decide +kernel
theorem dX1_addPiece_15 : decode cX1_addPiece 15 = .ok (.getfield 32, 3) := by decide +kernel
theorem dX1_addPiece_18 : decode cX1_addPiece 18 = .ok (.iload_n 2, 1) := by decide +kernel
theorem dX1_addPiece_19 : decode cX1_addPiece 19 = .ok (.iastore, 1) := by decide +kernel
theorem dX1_addPiece_20 : decode cX1_addPiece 20 = .ok (.aload_n 0, 1) := by decide +kernel
theorem dX1_addPiece_21 : decode cX1_addPiece 21 = .ok (.getfield 24, 3) := by decide +kernel
theorem dX1_addPiece_24 : decode cX1_addPiece 24 = .ok (.aload_n 0, 1) := by decide +kernel
theorem dX1_addPiece_25 : decode cX1_addPiece 25 = .ok (.getfield 32, 3) := by decide +kernel
theorem dX1_addPiece_28 : decode cX1_addPiece 28 = .ok (.iload_n 3, 1) := by decide +kernel
theorem dX1_addPiece_29 : decode cX1_addPiece 29 = .ok (.bastore, 1) := by decide +kernel
theorem dX1_addPiece_30 : decode cX1_addPiece 30 = .ok (.aload_n 0, 1) := by decide +kernel
theorem dX1_addPiece_31 : decode cX1_addPiece 31 = .ok (.dup, 1) := by decide +kernel
theorem dX1_addPiece_32 : decode cX1_addPiece 32 = .ok (.getfield 32, 3) := by decide +kernel
theorem dX1_addPiece_35 : decode cX1_addPiece 35 = .ok (.iconst 1, 1) := by decide +kernel
theorem dX1_addPiece_36 : decode cX1_addPiece 36 = .ok (.iadd, 1) := by decide +kernel
theorem dX1_addPiece_37 : decode cX1_addPiece 37 = .ok (.putfield 32, 3) := by decide +kernel
theorem dX1_addPiece_40 : decode cX1_addPiece 40 = .ok (.aload_n 0, 1) := by decide +kernel
theorem dX1_addPiece_41 : decode cX1_addPiece 41 = .ok (.dup, 1) := by decide +kernel
theorem dX1_addPiece_42 : decode cX1_addPiece 42 = .ok (.getfield 28, 3) := by decide +kernel
theorem dX1_addPiece_45 : decode cX1_addPiece 45 = .ok (.iconst 1, 1) := by decide +kernel
theorem dX1_addPiece_46 : decode cX1_addPiece 46 = .ok (.iload_n 1, 1) := by decide +kernel
theorem dX1_addPiece_47 : decode cX1_addPiece 47 = .ok (.ishl, 1) := by decide +kernel
theorem dX1_addPiece_48 : decode cX1_addPiece 48 = .ok (.iconst 1, 1) := by decide +kernel
theorem dX1_addPiece_49 : decode cX1_addPiece 49 = .ok (.iload_n 2, 1) := by decide +kernel
theorem dX1_addPiece_50 : decode cX1_addPiece 50 = .ok (.ishl, 1) := by decide +kernel
theorem dX1_addPiece_51 : decode cX1_addPiece 51 = .ok (.ior, 1) := by decide +kernel
theorem dX1_addPiece_52 : decode cX1_addPiece 52 = .ok (.ior, 1) := by decide +kernel
theorem dX1_addPiece_53 : decode cX1_addPiece 53 = .ok (.putfield 28, 3) := by decide +kernel
theorem dX1_addPiece_56 : decode cX1_addPiece 56 = .ok (.return_, 1) := by decide +kernel
theorem dX1_forgetAll_0 : decode cX1_forgetAll 0 = .ok (.aload_n 0, 1) := by decide +kernel
theorem dX1_forgetAll_1 : decode cX1_forgetAll 1 = .ok (.getfield 9, 3) := by decide +kernel
theorem dX1_forgetAll_4 : decode cX1_forgetAll 4 = .ok (.iconst 0, 1) := by decide +kernel
theorem dX1_forgetAll_5 : decode cX1_forgetAll 5 = .ok (.invokestatic 35, 3) := by decide +kernel
theorem dX1_forgetAll_8 : decode cX1_forgetAll 8 = .ok (.aload_n 0, 1) := by decide +kernel
theorem dX1_forgetAll_9 : decode cX1_forgetAll 9 = .ok (.getfield 15, 3) := by decide +kernel
theorem dX1_forgetAll_12 : decode cX1_forgetAll 12 = .ok (.iconst 0, 1) := by decide +kernel
theorem dX1_forgetAll_13 : decode cX1_forgetAll 13 = .ok (.invokestatic 35, 3) := by decide +kernel
theorem dX1_forgetAll_16 : decode cX1_forgetAll 16 = .ok (.aload_n 0, 1) := by decide +kernel
theorem dX1_forgetAll_17 : decode cX1_forgetAll 17 = .ok (.iconst 0, 1) := by decide +kernel
theorem dX1_forgetAll_18 : decode cX1_forgetAll 18 = .ok (.putfield 32, 3) := by decide +kernel
theorem dX1_forgetAll_21 : decode cX1_forgetAll 21 = .ok (.aload_n 0, 1) := by decide +kernel
theorem dX1_forgetAll_22 : decode cX1_forgetAll 22 = .ok (.iconst 0, 1) := by decide +kernel
theorem dX1_forgetAll_23 : decode cX1_forgetAll 23 = .ok (.putfield 28, 3) := by decide +kernel
theorem dX1_forgetAll_26 : decode cX1_forgetAll 26 = .ok (.return_, 1) := by decide +kernel
theorem dX2_setCell_0 : decode cX2_setCell 0 = .ok (.aload_n 0, 1) := by decide +kernel
theorem dX2_setCell_1 : decode cX2_setCell 1 = .ok (.iload_n 1, 1) := by decide +kernel
theorem dX2_setCell_2 : decode cX2_setCell 2 = .ok (.iload_n 2, 1) := by decide +kernel
theorem dX2_setCell_3 : decode cX2_setCell 3 = .ok (.iconst 0, 1) := by decide +kernel
theorem dX2_setCell_4 : decode cX2_setCell 4 = .ok (.iconst 1, 1) := by decide +kernel
theorem dX2_setCell_5 : decode cX2_setCell 5 = .ok (.iload_n 1, 1) := by decide +kernel
theorem dX2_setCell_6 : decode cX2_setCell 6 = .ok (.ishl, 1) := by decide +kernel
theorem dX2_setCell_7 : decode cX2_setCell 7 = .ok (.invokevirtual 35, 3) := by decide +kernel
theorem dX2_setCell_10 : decode cX2_setCell 10 = .ok (.return_, 1) := by decide +kernel
theorem dX2_leastFreeAddress_0 : decode cX2_leastFreeAddress 0 = .ok (.iconst 1, 1) := by decide +kernel
theorem dX2_leastFreeAddress_1 : decode cX2_leastFreeAddress 1 = .ok (.istore_n 1, 1) := by decide +kernel
theorem dX2_leastFreeAddress_2 : decode cX2_leastFreeAddress 2 = .ok (.iload_n 1, 1) := by decide +kernel
theorem dX2_leastFreeAddress_3 : decode cX2_leastFreeAddress 3 = .ok (.aload_n 0, 1) := by decide +kernel
theorem dX2_leastFreeAddress_4 : decode cX2_leastFreeAddress 4 = .ok (.getfield 15, 3) := by decide +kernel
theorem dX2_leastFreeAddress_7 : decode cX2_leastFreeAddress 7 = .ok (.if_icmp .gt 21, 3) := by decide +kernel
theorem dX2_leastFreeAddress_10 : decode cX2_leastFreeAddress 10 = .ok (.aload_n 0, 1) := by decide +kernel
theorem dX2_leastFreeAddress_11 : decode cX2_leastFreeAddress 11 = .ok (.getfield 19, 3) := by decide +kernel
theorem dX2_leastFreeAddress_14 : decode cX2_leastFreeAddress 14 = .ok (.iload_n 1, 1) := by decide +kernel
theorem dX2_leastFreeAddress_15 : decode cX2_leastFreeAddress 15 = .ok (.iaload, 1) := by decide +kernel
theorem dX2_leastFreeAddress_16 : decode cX2_leastFreeAddress 16 = .ok (.iconst (-1), 1) := by decide +kernel
theorem dX2_leastFreeAddress_17 : decode cX2_leastFreeAddress 17 = .ok (.if_icmp .ne 5, 3) := by decide +kernel
theorem dX2_leastFreeAddress_20 : decode cX2_leastFreeAddress 20 = .ok (.iload_n 1, 1) := by decide +kernel
theorem dX2_leastFreeAddress_21 : decode cX2_leastFreeAddress 21 = .ok (.ireturn, 1) := by decide +kernel
theorem dX2_leastFreeAddress_22 : decode cX2_leastFreeAddress 22 = .ok (.iinc 1 1, 3) := by decide +kernel
theorem dX2_leastFreeAddress_25 : decode cX2_leastFreeAddress 25 = .ok (.goto (-23), 3) := by decide +kernel
theorem dX2_leastFreeAddress_28 : decode cX2_leastFreeAddress 28 = .ok (.iconst (-1), 1) := by decide +kernel
theorem dX2_leastFreeAddress_29 : decode cX2_leastFreeAddress 29 = .ok (.ireturn, 1) := by decide +kernel
theorem dX2_removeCell_0 : decode cX2_removeCell 0 = .ok (.aload_n 0, 1) := by decide +kernel
theorem dX2_removeCell_1 : decode cX2_removeCell 1 = .ok (.getfield 19, 3) := by decide +kernel
theorem dX2_removeCell_4 : decode cX2_removeCell 4 = .ok (.iload_n 1, 1) := by decide +kernel
theorem dX2_removeCell_5 : decode cX2_removeCell 5 = .ok (.iconst (-1), 1) := by decide +kernel
theorem dX2_removeCell_6 : decode cX2_removeCell 6 = .ok (.iastore, 1) := by decide +kernel
theorem dX2_removeCell_7 : decode cX2_removeCell 7 = .ok (.aload_n 0, 1) := by decide +kernel
theorem dX2_removeCell_8 : decode cX2_removeCell 8 = .ok (.dup, 1) := by decide +kernel
theorem dX2_removeCell_9 : decode cX2_removeCell 9 = .ok (.getfield 39, 3) := by decide +kernel
theorem dX2_removeCell_12 : decode cX2_removeCell 12 = .ok (.aload_n 0, 1) := by decide +kernel
theorem dX2_removeCell_13 : decode cX2_removeCell 13 = .ok (.getfield 26, 3) := by decide +kernel
theorem dX2_removeCell_16 : decode cX2_removeCell 16 = .ok (.iload_n 1, 1) := by decide +kernel
theorem dX2_removeCell_17 : decode cX2_removeCell 17 = .ok (.iaload, 1) := by decide +kernel
theorem dX2_removeCell_18 : decode cX2_removeCell 18 = .ok (.iconst (-1), 1) := by decide +kernel
theorem dX2_removeCell_19 : decode cX2_removeCell 19 = .ok (.ixor, 1) := by decide +kernel
theorem dX2_removeCell_20 : decode cX2_removeCell 20 = .ok (.iand, 1) := by decide +kernel
theorem dX2_removeCell_21 : decode cX2_removeCell 21 = .ok (.putfield 39, 3) := by decide +kernel
theorem dX2_removeCell_24 : decode cX2_removeCell 24 = .ok (.return_, 1) := by decide +kernel

theorem dL_cell_0 : decode cL_cell 0 = .ok (.iload_n 1, 1) := by decide +kernel
theorem dL_cell_1 : decode cL_cell 1 = .ok (.aload_n 0, 1) := by decide +kernel
theorem dL_cell_2 : decode cL_cell 2 = .ok (.arraylength, 1) := by decide +kernel
theorem dL_cell_3 : decode cL_cell 3 = .ok (.if_icmp .ge 9, 3) := by decide +kernel
theorem dL_cell_6 : decode cL_cell 6 = .ok (.aload_n 0, 1) := by decide +kernel
theorem dL_cell_7 : decode cL_cell 7 = .ok (.iload_n 1, 1) := by decide +kernel
theorem dL_cell_8 : decode cL_cell 8 = .ok (.iaload, 1) := by decide +kernel
theorem dL_cell_9 : decode cL_cell 9 = .ok (.goto 9, 3) := by decide +kernel
theorem dL_cell_12 : decode cL_cell 12 = .ok (.ldc 7, 2) := by decide +kernel
theorem dL_cell_14 : decode cL_cell 14 = .ok (.iload_n 1, 1) := by decide +kernel
theorem dL_cell_15 : decode cL_cell 15 = .ok (.iconst 3, 1) := by decide +kernel
theorem dL_cell_16 : decode cL_cell 16 = .ok (.iadd, 1) := by decide +kernel
theorem dL_cell_17 : decode cL_cell 17 = .ok (.imul, 1) := by decide +kernel
theorem dL_cell_18 : decode cL_cell 18 = .ok (.ireturn, 1) := by decide +kernel
theorem dL_low_0 : decode cL_low 0 = .ok (.iload_n 0, 1) := by decide +kernel
theorem dL_low_1 : decode cL_low 1 = .ok (.ldc 8, 2) := by decide +kernel
theorem dL_low_3 : decode cL_low 3 = .ok (.iand, 1) := by decide +kernel
theorem dL_low_4 : decode cL_low 4 = .ok (.iload_n 1, 1) := by decide +kernel
theorem dL_low_5 : decode cL_low 5 = .ok (.irem, 1) := by decide +kernel
theorem dL_low_6 : decode cL_low 6 = .ok (.ireturn, 1) := by decide +kernel
theorem dL_seat_0 : decode cL_seat 0 = .ok (.bipush (-9), 2) := by decide +kernel
theorem dL_seat_2 : decode cL_seat 2 = .ok (.istore 4, 2) := by decide +kernel
theorem dL_seat_4 : decode cL_seat 4 = .ok (.iconst 0, 1) := by decide +kernel
theorem dL_seat_5 : decode cL_seat 5 = .ok (.istore 5, 2) := by decide +kernel
theorem dL_seat_7 : decode cL_seat 7 = .ok (.iload 5, 2) := by decide +kernel
theorem dL_seat_9 : decode cL_seat 9 = .ok (.aload_n 0, 1) := by decide +kernel
theorem dL_seat_10 : decode cL_seat 10 = .ok (.iconst 1, 1) := by decide +kernel
theorem dL_seat_11 : decode cL_seat 11 = .ok (.iaload, 1) := by decide +kernel
theorem dL_seat_12 : decode cL_seat 12 = .ok (.if_icmp .ge 28, 3) := by decide +kernel
theorem dL_seat_15 : decode cL_seat 15 = .ok (.aload_n 1, 1) := by decide +kernel
theorem dL_seat_16 : decode cL_seat 16 = .ok (.iload_n 2, 1) := by decide +kernel
theorem dL_seat_17 : decode cL_seat 17 = .ok (.iload 5, 2) := by decide +kernel
theorem dL_seat_19 : decode cL_seat 19 = .ok (.iadd, 1) := by decide +kernel
theorem dL_seat_20 : decode cL_seat 20 = .ok (.iaload, 1) := by decide +kernel
theorem dL_seat_21 : decode cL_seat 21 = .ok (.iload_n 3, 1) := by decide +kernel
theorem dL_seat_22 : decode cL_seat 22 = .ok (.if_icmp .ne 8, 3) := by decide +kernel
theorem dL_seat_25 : decode cL_seat 25 = .ok (.iload 5, 2) := by decide +kernel
theorem dL_seat_27 : decode cL_seat 27 = .ok (.goto 5, 3) := by decide +kernel
theorem dL_seat_30 : decode cL_seat 30 = .ok (.iload 4, 2) := by decide +kernel
theorem dL_seat_32 : decode cL_seat 32 = .ok (.istore 4, 2) := by decide +kernel
theorem dL_seat_34 : decode cL_seat 34 = .ok (.iinc 5 1, 3) := by decide +kernel
theorem dL_seat_37 : decode cL_seat 37 = .ok (.goto (-30), 3) := by decide +kernel
theorem dL_seat_40 : decode cL_seat 40 = .ok (.iload 4, 2) := by decide +kernel
theorem dL_seat_42 : decode cL_seat 42 = .ok (.ireturn, 1) := by decide +kernel
theorem dL_have_0 : decode cL_have 0 = .ok (.iconst 0, 1) := by decide +kernel
theorem dL_have_1 : decode cL_have 1 = .ok (.istore 4, 2) := by decide +kernel
theorem dL_have_3 : decode cL_have 3 = .ok (.iconst 0, 1) := by decide +kernel
theorem dL_have_4 : decode cL_have 4 = .ok (.istore 5, 2) := by decide +kernel
theorem dL_have_6 : decode cL_have 6 = .ok (.iload 5, 2) := by decide +kernel
theorem dL_have_8 : decode cL_have 8 = .ok (.aload_n 0, 1) := by decide +kernel
theorem dL_have_9 : decode cL_have 9 = .ok (.iconst 1, 1) := by decide +kernel
theorem dL_have_10 : decode cL_have 10 = .ok (.iaload, 1) := by decide +kernel
theorem dL_have_11 : decode cL_have 11 = .ok (.if_icmp .ge 34, 3) := by decide +kernel
theorem dL_have_14 : decode cL_have 14 = .ok (.iload 4, 2) := by decide +kernel
theorem dL_have_16 : decode cL_have 16 = .ok (.aload_n 1, 1) := by decide +kernel
theorem dL_have_17 : decode cL_have 17 = .ok (.bipush 12, 2) := by decide +kernel
theorem dL_have_19 : decode cL_have 19 = .ok (.aload_n 1, 1) := by decide +kernel
theorem dL_have_20 : decode cL_have 20 = .ok (.iload_n 2, 1) := by decide +kernel
theorem dL_have_21 : decode cL_have 21 = .ok (.iload 5, 2) := by decide +kernel
theorem dL_have_23 : decode cL_have 23 = .ok (.iadd, 1) := by decide +kernel
theorem dL_have_24 : decode cL_have 24 = .ok (.iaload, 1) := by decide +kernel
theorem dL_have_25 : decode cL_have 25 = .ok (.iadd, 1) := by decide +kernel
theorem dL_have_26 : decode cL_have 26 = .ok (.iaload, 1) := by decide +kernel
theorem dL_have_27 : decode cL_have 27 = .ok (.iload_n 3, 1) := by decide +kernel
theorem dL_have_28 : decode cL_have 28 = .ok (.if_icmp .le 7, 3) := by decide +kernel
theorem dL_have_31 : decode cL_have 31 = .ok (.iconst 1, 1) := by decide +kernel
theorem dL_have_32 : decode cL_have 32 = .ok (.goto 4, 3) := by decide +kernel
theorem dL_have_35 : decode cL_have 35 = .ok (.iconst 0, 1) := by decide +kernel
theorem dL_have_36 : decode cL_have 36 = .ok (.iadd, 1) := by decide +kernel
theorem dL_have_37 : decode cL_have 37 = .ok (.istore 4, 2) := by decide +kernel
theorem dL_have_39 : decode cL_have 39 = .ok (.iinc 5 1, 3) := by decide +kernel
theorem dL_have_42 : decode cL_have 42 = .ok (.goto (-36), 3) := by decide +kernel
theorem dL_have_45 : decode cL_have 45 = .ok (.iload 4, 2) := by decide +kernel
theorem dL_have_47 : decode cL_have 47 = .ok (.ireturn, 1) := by decide +kernel
theorem dL_both_0 : decode cL_both 0 = .ok (.aload_n 0, 1) := by decide +kernel
theorem dL_both_1 : decode cL_both 1 = .ok (.iconst 5, 1) := by decide +kernel
theorem dL_both_2 : decode cL_both 2 = .ok (.iaload, 1) := by decide +kernel
theorem dL_both_3 : decode cL_both 3 = .ok (.ifCond .ge 8, 3) := by decide +kernel
theorem dL_both_6 : decode cL_both 6 = .ok (.bipush 24, 2) := by decide +kernel
theorem dL_both_8 : decode cL_both 8 = .ok (.goto 5, 3) := by decide +kernel
theorem dL_both_11 : decode cL_both 11 = .ok (.bipush 29, 2) := by decide +kernel
theorem dL_both_13 : decode cL_both 13 = .ok (.ireturn, 1) := by decide +kernel
set_option maxRecDepth 20000 in
theorem ggL_isElder_L_seat : GoodIn wsL_isElder wsL_seat := goodIn_r _ [4] (by decide +kernel) (by decide +kernel)
set_option maxRecDepth 20000 in
theorem gL_isElder_L_seat : GoodIn wsL_isElder (va_wsS RL 9 yL_seat wsL_seat) := goodIn_app (goodIn_of _ (by decide +kernel)) ggL_isElder_L_seat
set_option maxRecDepth 20000 in
theorem ggL_isElder_L_both : GoodIn wsL_isElder wsL_both := goodIn_r _ [7] (by decide +kernel) (by decide +kernel)
set_option maxRecDepth 20000 in
theorem gL_isElder_L_both : GoodIn wsL_isElder (va_wsS RL 15 yL_both wsL_both) := goodIn_app (goodIn_of _ (by decide +kernel)) ggL_isElder_L_both
theorem dL_isElder_0 : decode cL_isElder 0 = .ok (.aload_n 0, 1) := by decide +kernel
theorem dL_isElder_1 : decode cL_isElder 1 = .ok (.aload_n 1, 1) := by decide +kernel
theorem dL_isElder_2 : decode cL_isElder 2 = .ok (.bipush 24, 2) := by decide +kernel
theorem dL_isElder_4 : decode cL_isElder 4 = .ok (.iload_n 2, 1) := by decide +kernel
theorem dL_isElder_5 : decode cL_isElder 5 = .ok (.invokestatic 9, 3) := by decide +kernel
theorem dL_isElder_8 : decode cL_isElder 8 = .ok (.ifCond .ge 16, 3) := by decide +kernel
theorem dL_isElder_11 : decode cL_isElder 11 = .ok (.aload_n 0, 1) := by decide +kernel
theorem dL_isElder_12 : decode cL_isElder 12 = .ok (.aload_n 1, 1) := by decide +kernel
theorem dL_isElder_13 : decode cL_isElder 13 = .ok (.aload_n 0, 1) := by decide +kernel
theorem dL_isElder_14 : decode cL_isElder 14 = .ok (.invokestatic 15, 3) := by decide +kernel
theorem dL_isElder_17 : decode cL_isElder 17 = .ok (.iload_n 2, 1) := by decide +kernel
theorem dL_isElder_18 : decode cL_isElder 18 = .ok (.invokestatic 9, 3) := by decide +kernel
theorem dL_isElder_21 : decode cL_isElder 21 = .ok (.ifCond .lt 7, 3) := by decide +kernel
theorem dL_isElder_24 : decode cL_isElder 24 = .ok (.iconst 1, 1) := by decide +kernel
theorem dL_isElder_25 : decode cL_isElder 25 = .ok (.goto 4, 3) := by decide +kernel
theorem dL_isElder_28 : decode cL_isElder 28 = .ok (.iconst 0, 1) := by decide +kernel
theorem dL_isElder_29 : decode cL_isElder 29 = .ok (.ireturn, 1) := by decide +kernel
set_option maxRecDepth 20000 in
theorem ggL_agree_L_have : GoodIn wsL_agree wsL_have := goodIn_r _ [4] (by decide +kernel) (by decide +kernel)
set_option maxRecDepth 20000 in
theorem gL_agree_L_have : GoodIn wsL_agree (va_wsS RL 19 yL_have wsL_have) := goodIn_app (goodIn_of _ (by decide +kernel)) ggL_agree_L_have
set_option maxRecDepth 20000 in
theorem ggL_agree_L_both : GoodIn wsL_agree wsL_both := goodIn_r _ [7] (by decide +kernel) (by decide +kernel)
set_option maxRecDepth 20000 in
theorem gL_agree_L_both : GoodIn wsL_agree (va_wsS RL 15 yL_both wsL_both) := goodIn_app (goodIn_of _ (by decide +kernel)) ggL_agree_L_both
theorem dL_agree_0 : decode cL_agree 0 = .ok (.iconst 0, 1) := by decide +kernel
theorem dL_agree_1 : decode cL_agree 1 = .ok (.istore_n 2, 1) := by decide +kernel
theorem dL_agree_2 : decode cL_agree 2 = .ok (.aload_n 0, 1) := by decide +kernel
theorem dL_agree_3 : decode cL_agree 3 = .ok (.iconst 4, 1) := by decide +kernel
theorem dL_agree_4 : decode cL_agree 4 = .ok (.iaload, 1) := by decide +kernel
theorem dL_agree_5 : decode cL_agree 5 = .ok (.istore_n 3, 1) := by decide +kernel
theorem dL_agree_6 : decode cL_agree 6 = .ok (.iload_n 3, 1) := by decide +kernel
theorem dL_agree_7 : decode cL_agree 7 = .ok (.aload_n 0, 1) := by decide +kernel
theorem dL_agree_8 : decode cL_agree 8 = .ok (.iconst 3, 1) := by decide +kernel
theorem dL_agree_9 : decode cL_agree 9 = .ok (.iaload, 1) := by decide +kernel
theorem dL_agree_10 : decode cL_agree 10 = .ok (.if_icmp .ge 121, 3) := by decide +kernel
theorem dL_agree_13 : decode cL_agree 13 = .ok (.aload_n 0, 1) := by decide +kernel
theorem dL_agree_14 : decode cL_agree 14 = .ok (.aload_n 1, 1) := by decide +kernel
theorem dL_agree_15 : decode cL_agree 15 = .ok (.bipush 24, 2) := by decide +kernel
theorem dL_agree_17 : decode cL_agree 17 = .ok (.iload_n 3, 1) := by decide +kernel
theorem dL_agree_18 : decode cL_agree 18 = .ok (.invokestatic 19, 3) := by decide +kernel
theorem dL_agree_21 : decode cL_agree 21 = .ok (.aload_n 0, 1) := by decide +kernel
theorem dL_agree_22 : decode cL_agree 22 = .ok (.aload_n 1, 1) := by decide +kernel
theorem dL_agree_23 : decode cL_agree 23 = .ok (.aload_n 0, 1) := by decide +kernel
theorem dL_agree_24 : decode cL_agree 24 = .ok (.invokestatic 15, 3) := by decide +kernel
theorem dL_agree_27 : decode cL_agree 27 = .ok (.iload_n 3, 1) := by decide +kernel
theorem dL_agree_28 : decode cL_agree 28 = .ok (.invokestatic 19, 3) := by decide +kernel
theorem dL_agree_31 : decode cL_agree 31 = .ok (.if_icmp .ge 14, 3) := by decide +kernel
theorem dL_agree_34 : decode cL_agree 34 = .ok (.aload_n 0, 1) := by decide +kernel
theorem dL_agree_35 : decode cL_agree 35 = .ok (.aload_n 1, 1) := by decide +kernel
theorem dL_agree_36 : decode cL_agree 36 = .ok (.bipush 24, 2) := by decide +kernel
theorem dL_agree_38 : decode cL_agree 38 = .ok (.iload_n 3, 1) := by decide +kernel
theorem dL_agree_39 : decode cL_agree 39 = .ok (.invokestatic 19, 3) := by decide +kernel
theorem dL_agree_42 : decode cL_agree 42 = .ok (.goto 13, 3) := by decide +kernel
theorem dL_agree_45 : decode cL_agree 45 = .ok (.aload_n 0, 1) := by decide +kernel
theorem dL_agree_46 : decode cL_agree 46 = .ok (.aload_n 1, 1) := by decide +kernel
theorem dL_agree_47 : decode cL_agree 47 = .ok (.aload_n 0, 1) := by decide +kernel
theorem dL_agree_48 : decode cL_agree 48 = .ok (.invokestatic 15, 3) := by decide +kernel
theorem dL_agree_51 : decode cL_agree 51 = .ok (.iload_n 3, 1) := by decide +kernel
theorem dL_agree_52 : decode cL_agree 52 = .ok (.invokestatic 19, 3) := by decide +kernel
theorem dL_agree_55 : decode cL_agree 55 = .ok (.istore 4, 2) := by decide +kernel
theorem dL_agree_57 : decode cL_agree 57 = .ok (.iload 4, 2) := by decide +kernel
theorem dL_agree_59 : decode cL_agree 59 = .ok (.aload_n 0, 1) := by decide +kernel
theorem dL_agree_60 : decode cL_agree 60 = .ok (.iconst 1, 1) := by decide +kernel
theorem dL_agree_61 : decode cL_agree 61 = .ok (.iaload, 1) := by decide +kernel
theorem dL_agree_62 : decode cL_agree 62 = .ok (.iconst 2, 1) := by decide +kernel
theorem dL_agree_63 : decode cL_agree 63 = .ok (.idiv, 1) := by decide +kernel
theorem dL_agree_64 : decode cL_agree 64 = .ok (.if_icmp .gt 5, 3) := by decide +kernel
theorem dL_agree_67 : decode cL_agree 67 = .ok (.iload_n 2, 1) := by decide +kernel
theorem dL_agree_68 : decode cL_agree 68 = .ok (.ireturn, 1) := by decide +kernel
theorem dL_agree_69 : decode cL_agree 69 = .ok (.iinc 2 1, 3) := by decide +kernel
theorem dL_agree_72 : decode cL_agree 72 = .ok (.aload_n 0, 1) := by decide +kernel
theorem dL_agree_73 : decode cL_agree 73 = .ok (.iconst 4, 1) := by decide +kernel
theorem dL_agree_74 : decode cL_agree 74 = .ok (.dup2, 1) := by decide +kernel
theorem dL_agree_75 : decode cL_agree 75 = .ok (.iaload, 1) := by decide +kernel
theorem dL_agree_76 : decode cL_agree 76 = .ok (.iconst 1, 1) := by decide +kernel
theorem dL_agree_77 : decode cL_agree 77 = .ok (.iadd, 1) := by decide +kernel
theorem dL_agree_78 : decode cL_agree 78 = .ok (.iastore, 1) := by decide +kernel
theorem dL_agree_79 : decode cL_agree 79 = .ok (.iload_n 3, 1) := by decide +kernel
theorem dL_agree_80 : decode cL_agree 80 = .ok (.aload_n 0, 1) := by decide +kernel
theorem dL_agree_81 : decode cL_agree 81 = .ok (.iconst 5, 1) := by decide +kernel
theorem dL_agree_82 : decode cL_agree 82 = .ok (.iaload, 1) := by decide +kernel
theorem dL_agree_83 : decode cL_agree 83 = .ok (.if_icmp .ne 42, 3) := by decide +kernel
theorem dL_agree_86 : decode cL_agree 86 = .ok (.bipush 24, 2) := by decide +kernel
theorem dL_agree_88 : decode cL_agree 88 = .ok (.istore 5, 2) := by decide +kernel
theorem dL_agree_90 : decode cL_agree 90 = .ok (.iload 5, 2) := by decide +kernel
theorem dL_agree_92 : decode cL_agree 92 = .ok (.bipush 29, 2) := by decide +kernel
theorem dL_agree_94 : decode cL_agree 94 = .ok (.if_icmp .ge 19, 3) := by decide +kernel
theorem dL_agree_97 : decode cL_agree 97 = .ok (.aload_n 1, 1) := by decide +kernel
theorem dL_agree_98 : decode cL_agree 98 = .ok (.iload 5, 2) := by decide +kernel
theorem dL_agree_100 : decode cL_agree 100 = .ok (.aload_n 1, 1) := by decide +kernel
theorem dL_agree_101 : decode cL_agree 101 = .ok (.iload 5, 2) := by decide +kernel
theorem dL_agree_103 : decode cL_agree 103 = .ok (.iconst 5, 1) := by decide +kernel
theorem dL_agree_104 : decode cL_agree 104 = .ok (.iadd, 1) := by decide +kernel
theorem dL_agree_105 : decode cL_agree 105 = .ok (.iaload, 1) := by decide +kernel
theorem dL_agree_106 : decode cL_agree 106 = .ok (.iastore, 1) := by decide +kernel
theorem dL_agree_107 : decode cL_agree 107 = .ok (.iinc 5 1, 3) := by decide +kernel
theorem dL_agree_110 : decode cL_agree 110 = .ok (.goto (-20), 3) := by decide +kernel
theorem dL_agree_113 : decode cL_agree 113 = .ok (.aload_n 0, 1) := by decide +kernel
theorem dL_agree_114 : decode cL_agree 114 = .ok (.iconst 5, 1) := by decide +kernel
theorem dL_agree_115 : decode cL_agree 115 = .ok (.bipush (-9), 2) := by decide +kernel
theorem dL_agree_117 : decode cL_agree 117 = .ok (.iastore, 1) := by decide +kernel
theorem dL_agree_118 : decode cL_agree 118 = .ok (.aload_n 0, 1) := by decide +kernel
theorem dL_agree_119 : decode cL_agree 119 = .ok (.iconst 2, 1) := by decide +kernel
theorem dL_agree_120 : decode cL_agree 120 = .ok (.dup2, 1) := by decide +kernel
theorem dL_agree_121 : decode cL_agree 121 = .ok (.iaload, 1) := by decide +kernel
theorem dL_agree_122 : decode cL_agree 122 = .ok (.iconst 1, 1) := by decide +kernel
theorem dL_agree_123 : decode cL_agree 123 = .ok (.iadd, 1) := by decide +kernel
theorem dL_agree_124 : decode cL_agree 124 = .ok (.iastore, 1) := by decide +kernel
theorem dL_agree_125 : decode cL_agree 125 = .ok (.iinc 3 1, 3) := by decide +kernel
theorem dL_agree_128 : decode cL_agree 128 = .ok (.goto (-122), 3) := by decide +kernel
theorem dL_agree_131 : decode cL_agree 131 = .ok (.iload_n 2, 1) := by decide +kernel
theorem dL_agree_132 : decode cL_agree 132 = .ok (.ireturn, 1) := by decide +kernel
set_option maxRecDepth 20000 in
theorem ggL_free_L_seat : GoodIn wsL_free wsL_seat := goodIn_r _ [4] (by decide +kernel) (by decide +kernel)
set_option maxRecDepth 20000 in
theorem gL_free_L_seat : GoodIn wsL_free (va_wsS RL 9 yL_seat wsL_seat) := goodIn_app (goodIn_of _ (by decide +kernel)) ggL_free_L_seat
theorem dL_free_0 : decode cL_free 0 = .ok (.iconst 0, 1) := by decide +kernel
theorem dL_free_1 : decode cL_free 1 = .ok (.istore_n 3, 1) := by decide +kernel
theorem dL_free_2 : decode cL_free 2 = .ok (.bipush (-9), 2) := by decide +kernel
theorem dL_free_4 : decode cL_free 4 = .ok (.istore 4, 2) := by decide +kernel
theorem dL_free_6 : decode cL_free 6 = .ok (.iconst 0, 1) := by decide +kernel
theorem dL_free_7 : decode cL_free 7 = .ok (.istore 5, 2) := by decide +kernel
theorem dL_free_9 : decode cL_free 9 = .ok (.iload 5, 2) := by decide +kernel
theorem dL_free_11 : decode cL_free 11 = .ok (.aload_n 0, 1) := by decide +kernel
theorem dL_free_12 : decode cL_free 12 = .ok (.iconst 0, 1) := by decide +kernel
theorem dL_free_13 : decode cL_free 13 = .ok (.iaload, 1) := by decide +kernel
theorem dL_free_14 : decode cL_free 14 = .ok (.if_icmp .ge 38, 3) := by decide +kernel
theorem dL_free_17 : decode cL_free 17 = .ok (.aload_n 0, 1) := by decide +kernel
theorem dL_free_18 : decode cL_free 18 = .ok (.aload_n 1, 1) := by decide +kernel
theorem dL_free_19 : decode cL_free 19 = .ok (.bipush 24, 2) := by decide +kernel
theorem dL_free_21 : decode cL_free 21 = .ok (.iload 5, 2) := by decide +kernel
theorem dL_free_23 : decode cL_free 23 = .ok (.invokestatic 9, 3) := by decide +kernel
theorem dL_free_26 : decode cL_free 26 = .ok (.ifCond .ge 20, 3) := by decide +kernel
theorem dL_free_29 : decode cL_free 29 = .ok (.iload_n 3, 1) := by decide +kernel
theorem dL_free_30 : decode cL_free 30 = .ok (.iload_n 2, 1) := by decide +kernel
theorem dL_free_31 : decode cL_free 31 = .ok (.if_icmp .ne 8, 3) := by decide +kernel
theorem dL_free_34 : decode cL_free 34 = .ok (.iload 5, 2) := by decide +kernel
theorem dL_free_36 : decode cL_free 36 = .ok (.goto 5, 3) := by decide +kernel
theorem dL_free_39 : decode cL_free 39 = .ok (.iload 4, 2) := by decide +kernel
theorem dL_free_41 : decode cL_free 41 = .ok (.istore 4, 2) := by decide +kernel
theorem dL_free_43 : decode cL_free 43 = .ok (.iinc 3 1, 3) := by decide +kernel
theorem dL_free_46 : decode cL_free 46 = .ok (.iinc 5 1, 3) := by decide +kernel
theorem dL_free_49 : decode cL_free 49 = .ok (.goto (-40), 3) := by decide +kernel
theorem dL_free_52 : decode cL_free 52 = .ok (.iload_n 2, 1) := by decide +kernel
theorem dL_free_53 : decode cL_free 53 = .ok (.ifCond .ge 7, 3) := by decide +kernel
theorem dL_free_56 : decode cL_free 56 = .ok (.iload_n 3, 1) := by decide +kernel
theorem dL_free_57 : decode cL_free 57 = .ok (.goto 5, 3) := by decide +kernel
theorem dL_free_60 : decode cL_free 60 = .ok (.iload 4, 2) := by decide +kernel
theorem dL_free_62 : decode cL_free 62 = .ok (.ireturn, 1) := by decide +kernel
theorem dL_next_0 : decode cL_next 0 = .ok (.iload_n 0, 1) := by decide +kernel
theorem dL_next_1 : decode cL_next 1 = .ok (.i2l, 1) := by decide +kernel
theorem dL_next_2 : decode cL_next 2 = .ok (.ldc2_w 22, 3) := by decide +kernel
theorem dL_next_5 : decode cL_next 5 = .ok (.lmul, 1) := by decide +kernel
theorem dL_next_6 : decode cL_next 6 = .ok (.ldc2_w 24, 3) := by decide +kernel
theorem dL_next_9 : decode cL_next 9 = .ok (.ladd, 1) := by decide +kernel
theorem dL_next_10 : decode cL_next 10 = .ok (.ldc2_w 26, 3) := by decide +kernel
theorem dL_next_13 : decode cL_next 13 = .ok (.land, 1) := by decide +kernel
theorem dL_next_14 : decode cL_next 14 = .ok (.l2i, 1) := by decide +kernel
theorem dL_next_15 : decode cL_next 15 = .ok (.ireturn, 1) := by decide +kernel
theorem dL_writes_0 : decode cL_writes 0 = .ok (.aload_n 2, 1) := by decide +kernel
theorem dL_writes_1 : decode cL_writes 1 = .ok (.aload_n 0, 1) := by decide +kernel
theorem dL_writes_2 : decode cL_writes 2 = .ok (.iconst 3, 1) := by decide +kernel
theorem dL_writes_3 : decode cL_writes 3 = .ok (.iaload, 1) := by decide +kernel
theorem dL_writes_4 : decode cL_writes 4 = .ok (.iload 4, 2) := by decide +kernel
theorem dL_writes_6 : decode cL_writes 6 = .ok (.i2l, 1) := by decide +kernel
theorem dL_writes_7 : decode cL_writes 7 = .ok (.ldc2_w 28, 3) := by decide +kernel
theorem dL_writes_10 : decode cL_writes 10 = .ok (.ladd, 1) := by decide +kernel
theorem dL_writes_11 : decode cL_writes 11 = .ok (.aload_n 0, 1) := by decide +kernel
theorem dL_writes_12 : decode cL_writes 12 = .ok (.iconst 2, 1) := by decide +kernel
theorem dL_writes_13 : decode cL_writes 13 = .ok (.iaload, 1) := by decide +kernel
theorem dL_writes_14 : decode cL_writes 14 = .ok (.i2l, 1) := by decide +kernel
theorem dL_writes_15 : decode cL_writes 15 = .ok (.bipush 10, 2) := by decide +kernel
theorem dL_writes_17 : decode cL_writes 17 = .ok (.lshl, 1) := by decide +kernel
theorem dL_writes_18 : decode cL_writes 18 = .ok (.lor, 1) := by decide +kernel
theorem dL_writes_19 : decode cL_writes 19 = .ok (.iload_n 3, 1) := by decide +kernel
theorem dL_writes_20 : decode cL_writes 20 = .ok (.i2l, 1) := by decide +kernel
theorem dL_writes_21 : decode cL_writes 21 = .ok (.bipush 18, 2) := by decide +kernel
theorem dL_writes_23 : decode cL_writes 23 = .ok (.lshl, 1) := by decide +kernel
theorem dL_writes_24 : decode cL_writes 24 = .ok (.lor, 1) := by decide +kernel
theorem dL_writes_25 : decode cL_writes 25 = .ok (.lastore, 1) := by decide +kernel
theorem dL_writes_26 : decode cL_writes 26 = .ok (.aload_n 0, 1) := by decide +kernel
theorem dL_writes_27 : decode cL_writes 27 = .ok (.iconst 3, 1) := by decide +kernel
theorem dL_writes_28 : decode cL_writes 28 = .ok (.dup2, 1) := by decide +kernel
theorem dL_writes_29 : decode cL_writes 29 = .ok (.iaload, 1) := by decide +kernel
theorem dL_writes_30 : decode cL_writes 30 = .ok (.iconst 1, 1) := by decide +kernel
theorem dL_writes_31 : decode cL_writes 31 = .ok (.iadd, 1) := by decide +kernel
theorem dL_writes_32 : decode cL_writes 32 = .ok (.iastore, 1) := by decide +kernel
theorem dL_writes_33 : decode cL_writes 33 = .ok (.aload_n 1, 1) := by decide +kernel
theorem dL_writes_34 : decode cL_writes 34 = .ok (.bipush 12, 2) := by decide +kernel
theorem dL_writes_36 : decode cL_writes 36 = .ok (.iload_n 3, 1) := by decide +kernel
theorem dL_writes_37 : decode cL_writes 37 = .ok (.iadd, 1) := by decide +kernel
theorem dL_writes_38 : decode cL_writes 38 = .ok (.dup2, 1) := by decide +kernel
theorem dL_writes_39 : decode cL_writes 39 = .ok (.iaload, 1) := by decide +kernel
theorem dL_writes_40 : decode cL_writes 40 = .ok (.iconst 1, 1) := by decide +kernel
theorem dL_writes_41 : decode cL_writes 41 = .ok (.iadd, 1) := by decide +kernel
theorem dL_writes_42 : decode cL_writes 42 = .ok (.iastore, 1) := by decide +kernel
theorem dL_writes_43 : decode cL_writes 43 = .ok (.return_, 1) := by decide +kernel

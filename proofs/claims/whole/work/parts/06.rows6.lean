theorem dX6_init_0 : decode cX6_init 0 = .ok (.aload_n 0, 1) := by decide +kernel
theorem dX6_init_1 : decode cX6_init 1 = .ok (.invokespecial 1, 3) := by decide +kernel
theorem dX6_init_4 : decode cX6_init 4 = .ok (.aload_n 0, 1) := by decide +kernel
theorem dX6_init_5 : decode cX6_init 5 = .ok (.sipush 522, 3) := by decide +kernel
theorem dX6_init_8 : decode cX6_init 8 = .ok (.newarray .int, 2) := by decide +kernel
theorem dX6_init_10 : decode cX6_init 10 = .ok (.putfield 7, 3) := by decide +kernel
theorem dX6_init_13 : decode cX6_init 13 = .ok (.aload_n 0, 1) := by decide +kernel
theorem dX6_init_14 : decode cX6_init 14 = .ok (.sipush 2610, 3) := by decide +kernel
theorem dX6_init_17 : decode cX6_init 17 = .ok (.newarray .int, 2) := by decide +kernel
theorem dX6_init_19 : decode cX6_init 19 = .ok (.putfield 13, 3) := by decide +kernel
theorem dX6_init_22 : decode cX6_init 22 = .ok (.aload_n 0, 1) := by decide +kernel
theorem dX6_init_23 : decode cX6_init 23 = .ok (.sipush 522, 3) := by decide +kernel
theorem dX6_init_26 : decode cX6_init 26 = .ok (.newarray .int, 2) := by decide +kernel
theorem dX6_init_28 : decode cX6_init 28 = .ok (.putfield 16, 3) := by decide +kernel
theorem dX6_init_31 : decode cX6_init 31 = .ok (.aload_n 0, 1) := by decide +kernel
theorem dX6_init_32 : decode cX6_init 32 = .ok (.bipush 60, 2) := by decide +kernel
theorem dX6_init_34 : decode cX6_init 34 = .ok (.newarray .int, 2) := by decide +kernel
theorem dX6_init_36 : decode cX6_init 36 = .ok (.putfield 19, 3) := by decide +kernel
theorem dX6_init_39 : decode cX6_init 39 = .ok (.aload_n 0, 1) := by decide +kernel
theorem dX6_init_40 : decode cX6_init 40 = .ok (.getfield 7, 3) := by decide +kernel
theorem dX6_init_43 : decode cX6_init 43 = .ok (.iconst 5, 1) := by decide +kernel
theorem dX6_init_44 : decode cX6_init 44 = .ok (.bipush (-9), 2) := by decide +kernel
theorem dX6_init_46 : decode cX6_init 46 = .ok (.iastore, 1) := by decide +kernel
theorem dX6_init_47 : decode cX6_init 47 = .ok (.aload_n 0, 1) := by decide +kernel
theorem dX6_init_48 : decode cX6_init 48 = .ok (.getfield 7, 3) := by decide +kernel
theorem dX6_init_51 : decode cX6_init 51 = .ok (.bipush 6, 2) := by decide +kernel
theorem dX6_init_53 : decode cX6_init 53 = .ok (.iconst 1, 1) := by decide +kernel
theorem dX6_init_54 : decode cX6_init 54 = .ok (.iastore, 1) := by decide +kernel
theorem dX6_init_55 : decode cX6_init 55 = .ok (.return_, 1) := by decide +kernel
theorem dX6_in_0 : decode cX6_in 0 = .ok (.iload_n 0, 1) := by decide +kernel
theorem dX6_in_1 : decode cX6_in 1 = .ok (.iload_n 1, 1) := by decide +kernel
theorem dX6_in_2 : decode cX6_in 2 = .ok (.if_icmp .lt 12, 3) := by decide +kernel
theorem dX6_in_5 : decode cX6_in 5 = .ok (.iload_n 0, 1) := by decide +kernel
theorem dX6_in_6 : decode cX6_in 6 = .ok (.iload_n 2, 1) := by decide +kernel
theorem dX6_in_7 : decode cX6_in 7 = .ok (.if_icmp .gt 7, 3) := by decide +kernel
theorem dX6_in_10 : decode cX6_in 10 = .ok (.iconst 1, 1) := by decide +kernel
theorem dX6_in_11 : decode cX6_in 11 = .ok (.goto 4, 3) := by decide +kernel
theorem dX6_in_14 : decode cX6_in 14 = .ok (.iconst 0, 1) := by decide +kernel
theorem dX6_in_15 : decode cX6_in 15 = .ok (.ireturn, 1) := by decide +kernel
theorem dX6_acts_0 : decode cX6_acts 0 = .ok (.aload_n 0, 1) := by decide +kernel
theorem dX6_acts_1 : decode cX6_acts 1 = .ok (.getfield 22, 3) := by decide +kernel
theorem dX6_acts_4 : decode cX6_acts 4 = .ok (.ifCond .eq 4, 3) := by decide +kernel
theorem dX6_acts_7 : decode cX6_acts 7 = .ok (.return_, 1) := by decide +kernel
theorem dX6_acts_8 : decode cX6_acts 8 = .ok (.aload_n 0, 1) := by decide +kernel
theorem dX6_acts_9 : decode cX6_acts 9 = .ok (.getfield 26, 3) := by decide +kernel
theorem dX6_acts_12 : decode cX6_acts 12 = .ok (.iconst 5, 1) := by decide +kernel
theorem dX6_acts_13 : decode cX6_acts 13 = .ok (.if_icmp .ne 44, 3) := by decide +kernel
theorem dX6_acts_16 : decode cX6_acts 16 = .ok (.iconst 0, 1) := by decide +kernel
theorem dX6_acts_17 : decode cX6_acts 17 = .ok (.istore_n 1, 1) := by decide +kernel
theorem dX6_acts_18 : decode cX6_acts 18 = .ok (.iload_n 1, 1) := by decide +kernel
theorem dX6_acts_19 : decode cX6_acts 19 = .ok (.sipush 2088, 3) := by decide +kernel
theorem dX6_acts_22 : decode cX6_acts 22 = .ok (.if_icmp .ge 25, 3) := by decide +kernel
theorem dX6_acts_25 : decode cX6_acts 25 = .ok (.aload_n 0, 1) := by decide +kernel
theorem dX6_acts_26 : decode cX6_acts 26 = .ok (.getfield 13, 3) := by decide +kernel
theorem dX6_acts_29 : decode cX6_acts 29 = .ok (.iload_n 1, 1) := by decide +kernel
theorem dX6_acts_30 : decode cX6_acts 30 = .ok (.aload_n 0, 1) := by decide +kernel
theorem dX6_acts_31 : decode cX6_acts 31 = .ok (.getfield 13, 3) := by decide +kernel
theorem dX6_acts_34 : decode cX6_acts 34 = .ok (.iload_n 1, 1) := by decide +kernel
theorem dX6_acts_35 : decode cX6_acts 35 = .ok (.sipush 522, 3) := by decide +kernel
theorem dX6_acts_38 : decode cX6_acts 38 = .ok (.iadd, 1) := by decide +kernel
theorem dX6_acts_39 : decode cX6_acts 39 = .ok (.iaload, 1) := by decide +kernel
theorem dX6_acts_40 : decode cX6_acts 40 = .ok (.iastore, 1) := by decide +kernel
theorem dX6_acts_41 : decode cX6_acts 41 = .ok (.iinc 1 1, 3) := by decide +kernel
theorem dX6_acts_44 : decode cX6_acts 44 = .ok (.goto (-26), 3) := by decide +kernel
theorem dX6_acts_47 : decode cX6_acts 47 = .ok (.aload_n 0, 1) := by decide +kernel
theorem dX6_acts_48 : decode cX6_acts 48 = .ok (.dup, 1) := by decide +kernel
theorem dX6_acts_49 : decode cX6_acts 49 = .ok (.getfield 26, 3) := by decide +kernel
theorem dX6_acts_52 : decode cX6_acts 52 = .ok (.iconst 1, 1) := by decide +kernel
theorem dX6_acts_53 : decode cX6_acts 53 = .ok (.isub, 1) := by decide +kernel
theorem dX6_acts_54 : decode cX6_acts 54 = .ok (.putfield 26, 3) := by decide +kernel
theorem dX6_acts_57 : decode cX6_acts 57 = .ok (.iconst 0, 1) := by decide +kernel
theorem dX6_acts_58 : decode cX6_acts 58 = .ok (.istore_n 1, 1) := by decide +kernel
theorem dX6_acts_59 : decode cX6_acts 59 = .ok (.iload_n 1, 1) := by decide +kernel
theorem dX6_acts_60 : decode cX6_acts 60 = .ok (.sipush 522, 3) := by decide +kernel
theorem dX6_acts_63 : decode cX6_acts 63 = .ok (.if_icmp .ge 30, 3) := by decide +kernel
theorem dX6_acts_66 : decode cX6_acts 66 = .ok (.aload_n 0, 1) := by decide +kernel
theorem dX6_acts_67 : decode cX6_acts 67 = .ok (.getfield 13, 3) := by decide +kernel
theorem dX6_acts_70 : decode cX6_acts 70 = .ok (.sipush 522, 3) := by decide +kernel
theorem dX6_acts_73 : decode cX6_acts 73 = .ok (.aload_n 0, 1) := by decide +kernel
theorem dX6_acts_74 : decode cX6_acts 74 = .ok (.getfield 26, 3) := by decide +kernel
theorem dX6_acts_77 : decode cX6_acts 77 = .ok (.imul, 1) := by decide +kernel
theorem dX6_acts_78 : decode cX6_acts 78 = .ok (.iload_n 1, 1) := by decide +kernel
theorem dX6_acts_79 : decode cX6_acts 79 = .ok (.iadd, 1) := by decide +kernel
theorem dX6_acts_80 : decode cX6_acts 80 = .ok (.aload_n 0, 1) := by decide +kernel
theorem dX6_acts_81 : decode cX6_acts 81 = .ok (.getfield 7, 3) := by decide +kernel
theorem dX6_acts_84 : decode cX6_acts 84 = .ok (.iload_n 1, 1) := by decide +kernel
theorem dX6_acts_85 : decode cX6_acts 85 = .ok (.iaload, 1) := by decide +kernel
theorem dX6_acts_86 : decode cX6_acts 86 = .ok (.iastore, 1) := by decide +kernel
theorem dX6_acts_87 : decode cX6_acts 87 = .ok (.iinc 1 1, 3) := by decide +kernel
theorem dX6_acts_90 : decode cX6_acts 90 = .ok (.goto (-31), 3) := by decide +kernel
theorem dX6_acts_93 : decode cX6_acts 93 = .ok (.aload_n 0, 1) := by decide +kernel
theorem dX6_acts_94 : decode cX6_acts 94 = .ok (.dup, 1) := by decide +kernel
theorem dX6_acts_95 : decode cX6_acts 95 = .ok (.getfield 26, 3) := by decide +kernel
theorem dX6_acts_98 : decode cX6_acts 98 = .ok (.iconst 1, 1) := by decide +kernel
theorem dX6_acts_99 : decode cX6_acts 99 = .ok (.iadd, 1) := by decide +kernel
theorem dX6_acts_100 : decode cX6_acts 100 = .ok (.putfield 26, 3) := by decide +kernel
theorem dX6_acts_103 : decode cX6_acts 103 = .ok (.return_, 1) := by decide +kernel
theorem dX6_isVillager_0 : decode cX6_isVillager 0 = .ok (.iload_n 1, 1) := by decide +kernel
theorem dX6_isVillager_1 : decode cX6_isVillager 1 = .ok (.ifCond .lt 17, 3) := by decide +kernel
theorem dX6_isVillager_4 : decode cX6_isVillager 4 = .ok (.iload_n 1, 1) := by decide +kernel
theorem dX6_isVillager_5 : decode cX6_isVillager 5 = .ok (.aload_n 0, 1) := by decide +kernel
theorem dX6_isVillager_6 : decode cX6_isVillager 6 = .ok (.getfield 7, 3) := by decide +kernel
theorem dX6_isVillager_9 : decode cX6_isVillager 9 = .ok (.iconst 0, 1) := by decide +kernel
theorem dX6_isVillager_10 : decode cX6_isVillager 10 = .ok (.iaload, 1) := by decide +kernel
theorem dX6_isVillager_11 : decode cX6_isVillager 11 = .ok (.if_icmp .ge 7, 3) := by decide +kernel
theorem dX6_isVillager_14 : decode cX6_isVillager 14 = .ok (.iconst 1, 1) := by decide +kernel
theorem dX6_isVillager_15 : decode cX6_isVillager 15 = .ok (.goto 4, 3) := by decide +kernel
theorem dX6_isVillager_18 : decode cX6_isVillager 18 = .ok (.iconst 0, 1) := by decide +kernel
theorem dX6_isVillager_19 : decode cX6_isVillager 19 = .ok (.ireturn, 1) := by decide +kernel
theorem dX6_isSeat_0 : decode cX6_isSeat 0 = .ok (.iload_n 1, 1) := by decide +kernel
theorem dX6_isSeat_1 : decode cX6_isSeat 1 = .ok (.ifCond .lt 17, 3) := by decide +kernel
theorem dX6_isSeat_4 : decode cX6_isSeat 4 = .ok (.iload_n 1, 1) := by decide +kernel
theorem dX6_isSeat_5 : decode cX6_isSeat 5 = .ok (.aload_n 0, 1) := by decide +kernel
theorem dX6_isSeat_6 : decode cX6_isSeat 6 = .ok (.getfield 7, 3) := by decide +kernel
theorem dX6_isSeat_9 : decode cX6_isSeat 9 = .ok (.iconst 1, 1) := by decide +kernel
theorem dX6_isSeat_10 : decode cX6_isSeat 10 = .ok (.iaload, 1) := by decide +kernel
theorem dX6_isSeat_11 : decode cX6_isSeat 11 = .ok (.if_icmp .ge 7, 3) := by decide +kernel
theorem dX6_isSeat_14 : decode cX6_isSeat 14 = .ok (.iconst 1, 1) := by decide +kernel
theorem dX6_isSeat_15 : decode cX6_isSeat 15 = .ok (.goto 4, 3) := by decide +kernel
theorem dX6_isSeat_18 : decode cX6_isSeat 18 = .ok (.iconst 0, 1) := by decide +kernel
theorem dX6_isSeat_19 : decode cX6_isSeat 19 = .ok (.ireturn, 1) := by decide +kernel
theorem dX6_isEntry_0 : decode cX6_isEntry 0 = .ok (.iload_n 1, 1) := by decide +kernel
theorem dX6_isEntry_1 : decode cX6_isEntry 1 = .ok (.ifCond .lt 17, 3) := by decide +kernel
theorem dX6_isEntry_4 : decode cX6_isEntry 4 = .ok (.iload_n 1, 1) := by decide +kernel
theorem dX6_isEntry_5 : decode cX6_isEntry 5 = .ok (.aload_n 0, 1) := by decide +kernel
theorem dX6_isEntry_6 : decode cX6_isEntry 6 = .ok (.getfield 7, 3) := by decide +kernel
theorem dX6_isEntry_9 : decode cX6_isEntry 9 = .ok (.iconst 3, 1) := by decide +kernel
theorem dX6_isEntry_10 : decode cX6_isEntry 10 = .ok (.iaload, 1) := by decide +kernel
theorem dX6_isEntry_11 : decode cX6_isEntry 11 = .ok (.if_icmp .ge 7, 3) := by decide +kernel
theorem dX6_isEntry_14 : decode cX6_isEntry 14 = .ok (.iconst 1, 1) := by decide +kernel
theorem dX6_isEntry_15 : decode cX6_isEntry 15 = .ok (.goto 4, 3) := by decide +kernel
theorem dX6_isEntry_18 : decode cX6_isEntry 18 = .ok (.iconst 0, 1) := by decide +kernel
theorem dX6_isEntry_19 : decode cX6_isEntry 19 = .ok (.ireturn, 1) := by decide +kernel
theorem dX6_goesOn_0 : decode cX6_goesOn 0 = .ok (.aload_n 0, 1) := by decide +kernel
theorem dX6_goesOn_1 : decode cX6_goesOn 1 = .ok (.getfield 7, 3) := by decide +kernel
theorem dX6_goesOn_4 : decode cX6_goesOn 4 = .ok (.iconst 5, 1) := by decide +kernel
theorem dX6_goesOn_5 : decode cX6_goesOn 5 = .ok (.iaload, 1) := by decide +kernel
theorem dX6_goesOn_6 : decode cX6_goesOn 6 = .ok (.bipush (-9), 2) := by decide +kernel
theorem dX6_goesOn_8 : decode cX6_goesOn 8 = .ok (.if_icmp .eq 7, 3) := by decide +kernel
theorem dX6_goesOn_11 : decode cX6_goesOn 11 = .ok (.iconst 1, 1) := by decide +kernel
theorem dX6_goesOn_12 : decode cX6_goesOn 12 = .ok (.goto 4, 3) := by decide +kernel
theorem dX6_goesOn_15 : decode cX6_goesOn 15 = .ok (.iconst 0, 1) := by decide +kernel
theorem dX6_goesOn_16 : decode cX6_goesOn 16 = .ok (.ireturn, 1) := by decide +kernel
theorem dX6_isPresent_0 : decode cX6_isPresent 0 = .ok (.aload_n 0, 1) := by decide +kernel
theorem dX6_isPresent_1 : decode cX6_isPresent 1 = .ok (.getfield 7, 3) := by decide +kernel
theorem dX6_isPresent_4 : decode cX6_isPresent 4 = .ok (.bipush 8, 2) := by decide +kernel
theorem dX6_isPresent_6 : decode cX6_isPresent 6 = .ok (.iload_n 1, 1) := by decide +kernel
theorem dX6_isPresent_7 : decode cX6_isPresent 7 = .ok (.iadd, 1) := by decide +kernel
theorem dX6_isPresent_8 : decode cX6_isPresent 8 = .ok (.iaload, 1) := by decide +kernel
theorem dX6_isPresent_9 : decode cX6_isPresent 9 = .ok (.iconst 1, 1) := by decide +kernel
theorem dX6_isPresent_10 : decode cX6_isPresent 10 = .ok (.if_icmp .ne 7, 3) := by decide +kernel
theorem dX6_isPresent_13 : decode cX6_isPresent 13 = .ok (.iconst 1, 1) := by decide +kernel
theorem dX6_isPresent_14 : decode cX6_isPresent 14 = .ok (.goto 4, 3) := by decide +kernel
theorem dX6_isPresent_17 : decode cX6_isPresent 17 = .ok (.iconst 0, 1) := by decide +kernel
theorem dX6_isPresent_18 : decode cX6_isPresent 18 = .ok (.ireturn, 1) := by decide +kernel
theorem dX6_seatOf_0 : decode cX6_seatOf 0 = .ok (.bipush (-9), 2) := by decide +kernel
theorem dX6_seatOf_2 : decode cX6_seatOf 2 = .ok (.istore_n 3, 1) := by decide +kernel
theorem dX6_seatOf_3 : decode cX6_seatOf 3 = .ok (.iconst 0, 1) := by decide +kernel
theorem dX6_seatOf_4 : decode cX6_seatOf 4 = .ok (.istore 4, 2) := by decide +kernel
theorem dX6_seatOf_6 : decode cX6_seatOf 6 = .ok (.iload 4, 2) := by decide +kernel
theorem dX6_seatOf_8 : decode cX6_seatOf 8 = .ok (.aload_n 0, 1) := by decide +kernel
theorem dX6_seatOf_9 : decode cX6_seatOf 9 = .ok (.getfield 7, 3) := by decide +kernel
theorem dX6_seatOf_12 : decode cX6_seatOf 12 = .ok (.iconst 1, 1) := by decide +kernel
theorem dX6_seatOf_13 : decode cX6_seatOf 13 = .ok (.iaload, 1) := by decide +kernel
theorem dX6_seatOf_14 : decode cX6_seatOf 14 = .ok (.if_icmp .ge 29, 3) := by decide +kernel
theorem dX6_seatOf_17 : decode cX6_seatOf 17 = .ok (.aload_n 0, 1) := by decide +kernel
theorem dX6_seatOf_18 : decode cX6_seatOf 18 = .ok (.getfield 7, 3) := by decide +kernel
theorem dX6_seatOf_21 : decode cX6_seatOf 21 = .ok (.iload_n 1, 1) := by decide +kernel
theorem dX6_seatOf_22 : decode cX6_seatOf 22 = .ok (.iload 4, 2) := by decide +kernel
theorem dX6_seatOf_24 : decode cX6_seatOf 24 = .ok (.iadd, 1) := by decide +kernel
theorem dX6_seatOf_25 : decode cX6_seatOf 25 = .ok (.iaload, 1) := by decide +kernel
theorem dX6_seatOf_26 : decode cX6_seatOf 26 = .ok (.iload_n 2, 1) := by decide +kernel
theorem dX6_seatOf_27 : decode cX6_seatOf 27 = .ok (.if_icmp .ne 8, 3) := by decide +kernel
theorem dX6_seatOf_30 : decode cX6_seatOf 30 = .ok (.iload 4, 2) := by decide +kernel
theorem dX6_seatOf_32 : decode cX6_seatOf 32 = .ok (.goto 4, 3) := by decide +kernel
theorem dX6_seatOf_35 : decode cX6_seatOf 35 = .ok (.iload_n 3, 1) := by decide +kernel
theorem dX6_seatOf_36 : decode cX6_seatOf 36 = .ok (.istore_n 3, 1) := by decide +kernel
theorem dX6_seatOf_37 : decode cX6_seatOf 37 = .ok (.iinc 4 1, 3) := by decide +kernel
theorem dX6_seatOf_40 : decode cX6_seatOf 40 = .ok (.goto (-34), 3) := by decide +kernel
theorem dX6_seatOf_43 : decode cX6_seatOf 43 = .ok (.iload_n 3, 1) := by decide +kernel
theorem dX6_seatOf_44 : decode cX6_seatOf 44 = .ok (.ireturn, 1) := by decide +kernel
set_option maxRecDepth 20000 in
theorem ggX6_newer_X6_goesOn : GoodIn wsX6_newer wsX6_goesOn := goodIn_r _ [5, 6, 7, 8, 9, 10, 11, 12, 13, 14, 15] (by decide +kernel) (by decide +kernel)
set_option maxRecDepth 20000 in
theorem gX6_newer_X6_goesOn : GoodIn wsX6_newer (wsV RX6 30 RX6 yX6_goesOn wsX6_goesOn) := goodIn_app (goodIn_of _ (by decide +kernel)) ggX6_newer_X6_goesOn
theorem dX6_newer_0 : decode cX6_newer 0 = .ok (.aload_n 0, 1) := by decide +kernel
theorem dX6_newer_1 : decode cX6_newer 1 = .ok (.invokevirtual 30, 3) := by decide +kernel
theorem dX6_newer_4 : decode cX6_newer 4 = .ok (.ifCond .eq 8, 3) := by decide +kernel
theorem dX6_newer_7 : decode cX6_newer 7 = .ok (.bipush 37, 2) := by decide +kernel
theorem dX6_newer_9 : decode cX6_newer 9 = .ok (.goto 5, 3) := by decide +kernel
theorem dX6_newer_12 : decode cX6_newer 12 = .ok (.bipush 32, 2) := by decide +kernel
theorem dX6_newer_14 : decode cX6_newer 14 = .ok (.ireturn, 1) := by decide +kernel
set_option maxRecDepth 20000 in
theorem ggX6_isElder_X6_seatOf : GoodIn wsX6_isElder wsX6_seatOf := goodIn_r _ [5, 6, 15, 16, 17, 18, 19, 20, 21, 22, 23] (by decide +kernel) (by decide +kernel)
set_option maxRecDepth 20000 in
theorem gX6_isElder_X6_seatOf : GoodIn wsX6_isElder (wsV RX6 34 RX6 yX6_seatOf wsX6_seatOf) := goodIn_app (goodIn_of _ (by decide +kernel)) ggX6_isElder_X6_seatOf
set_option maxRecDepth 20000 in
theorem ggX6_isElder_X6_newer : GoodIn wsX6_isElder wsX6_newer := goodIn_r _ [10, 11, 12, 13, 4, 14, 6, 15, 16, 17, 18, 19, 20, 21, 22, 23] (by decide +kernel) (by decide +kernel)
set_option maxRecDepth 20000 in
theorem gX6_isElder_X6_newer : GoodIn wsX6_isElder (wsV RX6 38 RX6 yX6_newer wsX6_newer) := goodIn_app (goodIn_of _ (by decide +kernel)) ggX6_isElder_X6_newer
theorem dX6_isElder_0 : decode cX6_isElder 0 = .ok (.aload_n 0, 1) := by decide +kernel
theorem dX6_isElder_1 : decode cX6_isElder 1 = .ok (.bipush 32, 2) := by decide +kernel
theorem dX6_isElder_3 : decode cX6_isElder 3 = .ok (.iload_n 1, 1) := by decide +kernel
theorem dX6_isElder_4 : decode cX6_isElder 4 = .ok (.invokevirtual 34, 3) := by decide +kernel
theorem dX6_isElder_7 : decode cX6_isElder 7 = .ok (.bipush (-9), 2) := by decide +kernel
theorem dX6_isElder_9 : decode cX6_isElder 9 = .ok (.if_icmp .ne 17, 3) := by decide +kernel
theorem dX6_isElder_12 : decode cX6_isElder 12 = .ok (.aload_n 0, 1) := by decide +kernel
theorem dX6_isElder_13 : decode cX6_isElder 13 = .ok (.aload_n 0, 1) := by decide +kernel
theorem dX6_isElder_14 : decode cX6_isElder 14 = .ok (.invokevirtual 38, 3) := by decide +kernel
theorem dX6_isElder_17 : decode cX6_isElder 17 = .ok (.iload_n 1, 1) := by decide +kernel
theorem dX6_isElder_18 : decode cX6_isElder 18 = .ok (.invokevirtual 34, 3) := by decide +kernel
theorem dX6_isElder_21 : decode cX6_isElder 21 = .ok (.bipush (-9), 2) := by decide +kernel
theorem dX6_isElder_23 : decode cX6_isElder 23 = .ok (.if_icmp .eq 7, 3) := by decide +kernel
theorem dX6_isElder_26 : decode cX6_isElder 26 = .ok (.iconst 1, 1) := by decide +kernel
theorem dX6_isElder_27 : decode cX6_isElder 27 = .ok (.goto 4, 3) := by decide +kernel
theorem dX6_isElder_30 : decode cX6_isElder 30 = .ok (.iconst 0, 1) := by decide +kernel
theorem dX6_isElder_31 : decode cX6_isElder 31 = .ok (.ireturn, 1) := by decide +kernel
theorem dX6_having_0 : decode cX6_having 0 = .ok (.iconst 0, 1) := by decide +kernel
theorem dX6_having_1 : decode cX6_having 1 = .ok (.istore_n 3, 1) := by decide +kernel
theorem dX6_having_2 : decode cX6_having 2 = .ok (.iconst 0, 1) := by decide +kernel
theorem dX6_having_3 : decode cX6_having 3 = .ok (.istore 4, 2) := by decide +kernel
theorem dX6_having_5 : decode cX6_having 5 = .ok (.iload 4, 2) := by decide +kernel
theorem dX6_having_7 : decode cX6_having 7 = .ok (.aload_n 0, 1) := by decide +kernel
theorem dX6_having_8 : decode cX6_having 8 = .ok (.getfield 7, 3) := by decide +kernel
theorem dX6_having_11 : decode cX6_having 11 = .ok (.iconst 1, 1) := by decide +kernel
theorem dX6_having_12 : decode cX6_having 12 = .ok (.iaload, 1) := by decide +kernel
theorem dX6_having_13 : decode cX6_having 13 = .ok (.if_icmp .ge 38, 3) := by decide +kernel
theorem dX6_having_16 : decode cX6_having 16 = .ok (.iload_n 3, 1) := by decide +kernel
theorem dX6_having_17 : decode cX6_having 17 = .ok (.aload_n 0, 1) := by decide +kernel
theorem dX6_having_18 : decode cX6_having 18 = .ok (.getfield 7, 3) := by decide +kernel
theorem dX6_having_21 : decode cX6_having 21 = .ok (.bipush 20, 2) := by decide +kernel
theorem dX6_having_23 : decode cX6_having 23 = .ok (.aload_n 0, 1) := by decide +kernel
theorem dX6_having_24 : decode cX6_having 24 = .ok (.getfield 7, 3) := by decide +kernel
theorem dX6_having_27 : decode cX6_having 27 = .ok (.iload_n 1, 1) := by decide +kernel
theorem dX6_having_28 : decode cX6_having 28 = .ok (.iload 4, 2) := by decide +kernel
theorem dX6_having_30 : decode cX6_having 30 = .ok (.iadd, 1) := by decide +kernel
theorem dX6_having_31 : decode cX6_having 31 = .ok (.iaload, 1) := by decide +kernel
theorem dX6_having_32 : decode cX6_having 32 = .ok (.iadd, 1) := by decide +kernel
theorem dX6_having_33 : decode cX6_having 33 = .ok (.iaload, 1) := by decide +kernel
theorem dX6_having_34 : decode cX6_having 34 = .ok (.iload_n 2, 1) := by decide +kernel
theorem dX6_having_35 : decode cX6_having 35 = .ok (.if_icmp .le 7, 3) := by decide +kernel
theorem dX6_having_38 : decode cX6_having 38 = .ok (.iconst 1, 1) := by decide +kernel
theorem dX6_having_39 : decode cX6_having 39 = .ok (.goto 4, 3) := by decide +kernel
theorem dX6_having_42 : decode cX6_having 42 = .ok (.iconst 0, 1) := by decide +kernel
theorem dX6_having_43 : decode cX6_having 43 = .ok (.iadd, 1) := by decide +kernel
theorem dX6_having_44 : decode cX6_having 44 = .ok (.istore_n 3, 1) := by decide +kernel
theorem dX6_having_45 : decode cX6_having 45 = .ok (.iinc 4 1, 3) := by decide +kernel
theorem dX6_having_48 : decode cX6_having 48 = .ok (.goto (-43), 3) := by decide +kernel
theorem dX6_having_51 : decode cX6_having 51 = .ok (.iload_n 3, 1) := by decide +kernel
theorem dX6_having_52 : decode cX6_having 52 = .ok (.ireturn, 1) := by decide +kernel
theorem dX6_isMajor_0 : decode cX6_isMajor 0 = .ok (.iconst 2, 1) := by decide +kernel
theorem dX6_isMajor_1 : decode cX6_isMajor 1 = .ok (.iload_n 1, 1) := by decide +kernel
theorem dX6_isMajor_2 : decode cX6_isMajor 2 = .ok (.imul, 1) := by decide +kernel
theorem dX6_isMajor_3 : decode cX6_isMajor 3 = .ok (.aload_n 0, 1) := by decide +kernel
theorem dX6_isMajor_4 : decode cX6_isMajor 4 = .ok (.getfield 7, 3) := by decide +kernel
theorem dX6_isMajor_7 : decode cX6_isMajor 7 = .ok (.iconst 1, 1) := by decide +kernel
theorem dX6_isMajor_8 : decode cX6_isMajor 8 = .ok (.iaload, 1) := by decide +kernel
theorem dX6_isMajor_9 : decode cX6_isMajor 9 = .ok (.if_icmp .le 7, 3) := by decide +kernel
theorem dX6_isMajor_12 : decode cX6_isMajor 12 = .ok (.iconst 1, 1) := by decide +kernel
theorem dX6_isMajor_13 : decode cX6_isMajor 13 = .ok (.goto 4, 3) := by decide +kernel
theorem dX6_isMajor_16 : decode cX6_isMajor 16 = .ok (.iconst 0, 1) := by decide +kernel
theorem dX6_isMajor_17 : decode cX6_isMajor 17 = .ok (.ireturn, 1) := by decide +kernel
theorem dX6_ends_0 : decode cX6_ends 0 = .ok (.iconst 0, 1) := by decide +kernel
theorem dX6_ends_1 : decode cX6_ends 1 = .ok (.istore_n 1, 1) := by decide +kernel
theorem dX6_ends_2 : decode cX6_ends 2 = .ok (.iload_n 1, 1) := by decide +kernel
theorem dX6_ends_3 : decode cX6_ends 3 = .ok (.aload_n 0, 1) := by decide +kernel
theorem dX6_ends_4 : decode cX6_ends 4 = .ok (.getfield 7, 3) := by decide +kernel
theorem dX6_ends_7 : decode cX6_ends 7 = .ok (.iconst 1, 1) := by decide +kernel
theorem dX6_ends_8 : decode cX6_ends 8 = .ok (.iaload, 1) := by decide +kernel
theorem dX6_ends_9 : decode cX6_ends 9 = .ok (.if_icmp .ge 27, 3) := by decide +kernel
theorem dX6_ends_12 : decode cX6_ends 12 = .ok (.aload_n 0, 1) := by decide +kernel
theorem dX6_ends_13 : decode cX6_ends 13 = .ok (.getfield 7, 3) := by decide +kernel
theorem dX6_ends_16 : decode cX6_ends 16 = .ok (.bipush 32, 2) := by decide +kernel
theorem dX6_ends_18 : decode cX6_ends 18 = .ok (.iload_n 1, 1) := by decide +kernel
theorem dX6_ends_19 : decode cX6_ends 19 = .ok (.iadd, 1) := by decide +kernel
theorem dX6_ends_20 : decode cX6_ends 20 = .ok (.aload_n 0, 1) := by decide +kernel
theorem dX6_ends_21 : decode cX6_ends 21 = .ok (.getfield 7, 3) := by decide +kernel
theorem dX6_ends_24 : decode cX6_ends 24 = .ok (.bipush 37, 2) := by decide +kernel
theorem dX6_ends_26 : decode cX6_ends 26 = .ok (.iload_n 1, 1) := by decide +kernel
theorem dX6_ends_27 : decode cX6_ends 27 = .ok (.iadd, 1) := by decide +kernel
theorem dX6_ends_28 : decode cX6_ends 28 = .ok (.iaload, 1) := by decide +kernel
theorem dX6_ends_29 : decode cX6_ends 29 = .ok (.iastore, 1) := by decide +kernel
theorem dX6_ends_30 : decode cX6_ends 30 = .ok (.iinc 1 1, 3) := by decide +kernel
theorem dX6_ends_33 : decode cX6_ends 33 = .ok (.goto (-31), 3) := by decide +kernel
theorem dX6_ends_36 : decode cX6_ends 36 = .ok (.aload_n 0, 1) := by decide +kernel
theorem dX6_ends_37 : decode cX6_ends 37 = .ok (.getfield 7, 3) := by decide +kernel
theorem dX6_ends_40 : decode cX6_ends 40 = .ok (.iconst 5, 1) := by decide +kernel
theorem dX6_ends_41 : decode cX6_ends 41 = .ok (.bipush (-9), 2) := by decide +kernel
theorem dX6_ends_43 : decode cX6_ends 43 = .ok (.iastore, 1) := by decide +kernel
theorem dX6_ends_44 : decode cX6_ends 44 = .ok (.aload_n 0, 1) := by decide +kernel
theorem dX6_ends_45 : decode cX6_ends 45 = .ok (.getfield 7, 3) := by decide +kernel
theorem dX6_ends_48 : decode cX6_ends 48 = .ok (.iconst 2, 1) := by decide +kernel
theorem dX6_ends_49 : decode cX6_ends 49 = .ok (.dup2, 1) := by decide +kernel
theorem dX6_ends_50 : decode cX6_ends 50 = .ok (.iaload, 1) := by decide +kernel
theorem dX6_ends_51 : decode cX6_ends 51 = .ok (.iconst 1, 1) := by decide +kernel
theorem dX6_ends_52 : decode cX6_ends 52 = .ok (.iadd, 1) := by decide +kernel
theorem dX6_ends_53 : decode cX6_ends 53 = .ok (.iastore, 1) := by decide +kernel
theorem dX6_ends_54 : decode cX6_ends 54 = .ok (.return_, 1) := by decide +kernel
set_option maxRecDepth 20000 in
theorem ggX6_agrees_X6_having : GoodIn wsX6_agrees wsX6_having := goodIn_r _ [6, 1, 23, 24, 25, 26, 27, 28, 29, 30, 31] (by decide +kernel) (by decide +kernel)
set_option maxRecDepth 20000 in
theorem gX6_agrees_X6_having : GoodIn wsX6_agrees (wsV RX6 42 RX6 yX6_having wsX6_having) := goodIn_app (goodIn_of _ (by decide +kernel)) ggX6_agrees_X6_having
set_option maxRecDepth 20000 in
theorem ggX6_agrees_X6_isMajor : GoodIn wsX6_agrees wsX6_isMajor := goodIn_r _ [10, 1, 23, 24, 25, 26, 27, 28, 29, 30, 31] (by decide +kernel) (by decide +kernel)
set_option maxRecDepth 20000 in
theorem gX6_agrees_X6_isMajor : GoodIn wsX6_agrees (wsV RX6 45 RX6 yX6_isMajor wsX6_isMajor) := goodIn_app (goodIn_of _ (by decide +kernel)) ggX6_agrees_X6_isMajor
set_option maxRecDepth 20000 in
theorem ggX6_agrees_X6_newer : GoodIn wsX6_agrees wsX6_newer := goodIn_r _ [14, 15, 16, 17, 5, 18, 1, 23, 24, 25, 26, 27, 28, 29, 30, 31] (by decide +kernel) (by decide +kernel)
set_option maxRecDepth 20000 in
theorem gX6_agrees_X6_newer : GoodIn wsX6_agrees (wsV RX6 38 RX6 yX6_newer wsX6_newer) := goodIn_app (goodIn_of _ (by decide +kernel)) ggX6_agrees_X6_newer
set_option maxRecDepth 20000 in
theorem ggX6_agrees_X6_ends : GoodIn wsX6_agrees wsX6_ends := goodIn_r _ [22, 1, 23, 24, 25, 26, 27, 28, 29, 30, 31] (by decide +kernel) (by decide +kernel)
set_option maxRecDepth 20000 in
theorem gX6_agrees_X6_ends : GoodIn wsX6_agrees (wsV RX6 49 RX6 yX6_ends wsX6_ends) := goodIn_app (goodIn_of _ (by decide +kernel)) ggX6_agrees_X6_ends
theorem dX6_agrees_0 : decode cX6_agrees 0 = .ok (.aload_n 0, 1) := by decide +kernel
theorem dX6_agrees_1 : decode cX6_agrees 1 = .ok (.getfield 7, 3) := by decide +kernel
theorem dX6_agrees_4 : decode cX6_agrees 4 = .ok (.iconst 4, 1) := by decide +kernel
theorem dX6_agrees_5 : decode cX6_agrees 5 = .ok (.iaload, 1) := by decide +kernel
theorem dX6_agrees_6 : decode cX6_agrees 6 = .ok (.istore_n 1, 1) := by decide +kernel
theorem dX6_agrees_7 : decode cX6_agrees 7 = .ok (.aload_n 0, 1) := by decide +kernel
theorem dX6_agrees_8 : decode cX6_agrees 8 = .ok (.getfield 7, 3) := by decide +kernel
theorem dX6_agrees_11 : decode cX6_agrees 11 = .ok (.iconst 4, 1) := by decide +kernel
theorem dX6_agrees_12 : decode cX6_agrees 12 = .ok (.iaload, 1) := by decide +kernel
theorem dX6_agrees_13 : decode cX6_agrees 13 = .ok (.aload_n 0, 1) := by decide +kernel
theorem dX6_agrees_14 : decode cX6_agrees 14 = .ok (.getfield 7, 3) := by decide +kernel
theorem dX6_agrees_17 : decode cX6_agrees 17 = .ok (.iconst 3, 1) := by decide +kernel
theorem dX6_agrees_18 : decode cX6_agrees 18 = .ok (.iaload, 1) := by decide +kernel
theorem dX6_agrees_19 : decode cX6_agrees 19 = .ok (.if_icmp .ge 77, 3) := by decide +kernel
theorem dX6_agrees_22 : decode cX6_agrees 22 = .ok (.aload_n 0, 1) := by decide +kernel
theorem dX6_agrees_23 : decode cX6_agrees 23 = .ok (.aload_n 0, 1) := by decide +kernel
theorem dX6_agrees_24 : decode cX6_agrees 24 = .ok (.bipush 32, 2) := by decide +kernel
theorem dX6_agrees_26 : decode cX6_agrees 26 = .ok (.aload_n 0, 1) := by decide +kernel
theorem dX6_agrees_27 : decode cX6_agrees 27 = .ok (.getfield 7, 3) := by decide +kernel
theorem dX6_agrees_30 : decode cX6_agrees 30 = .ok (.iconst 4, 1) := by decide +kernel
theorem dX6_agrees_31 : decode cX6_agrees 31 = .ok (.iaload, 1) := by decide +kernel
theorem dX6_agrees_32 : decode cX6_agrees 32 = .ok (.invokevirtual 42, 3) := by decide +kernel
theorem dX6_agrees_35 : decode cX6_agrees 35 = .ok (.invokevirtual 45, 3) := by decide +kernel
theorem dX6_agrees_38 : decode cX6_agrees 38 = .ok (.ifCond .eq 58, 3) := by decide +kernel
theorem dX6_agrees_41 : decode cX6_agrees 41 = .ok (.aload_n 0, 1) := by decide +kernel
theorem dX6_agrees_42 : decode cX6_agrees 42 = .ok (.aload_n 0, 1) := by decide +kernel
theorem dX6_agrees_43 : decode cX6_agrees 43 = .ok (.aload_n 0, 1) := by decide +kernel
theorem dX6_agrees_44 : decode cX6_agrees 44 = .ok (.invokevirtual 38, 3) := by decide +kernel
theorem dX6_agrees_47 : decode cX6_agrees 47 = .ok (.aload_n 0, 1) := by decide +kernel
theorem dX6_agrees_48 : decode cX6_agrees 48 = .ok (.getfield 7, 3) := by decide +kernel
theorem dX6_agrees_51 : decode cX6_agrees 51 = .ok (.iconst 4, 1) := by decide +kernel
theorem dX6_agrees_52 : decode cX6_agrees 52 = .ok (.iaload, 1) := by decide +kernel
theorem dX6_agrees_53 : decode cX6_agrees 53 = .ok (.invokevirtual 42, 3) := by decide +kernel
theorem dX6_agrees_56 : decode cX6_agrees 56 = .ok (.invokevirtual 45, 3) := by decide +kernel
theorem dX6_agrees_59 : decode cX6_agrees 59 = .ok (.ifCond .eq 37, 3) := by decide +kernel
theorem dX6_agrees_62 : decode cX6_agrees 62 = .ok (.aload_n 0, 1) := by decide +kernel
theorem dX6_agrees_63 : decode cX6_agrees 63 = .ok (.getfield 7, 3) := by decide +kernel
theorem dX6_agrees_66 : decode cX6_agrees 66 = .ok (.iconst 4, 1) := by decide +kernel
theorem dX6_agrees_67 : decode cX6_agrees 67 = .ok (.dup2, 1) := by decide +kernel
theorem dX6_agrees_68 : decode cX6_agrees 68 = .ok (.iaload, 1) := by decide +kernel
theorem dX6_agrees_69 : decode cX6_agrees 69 = .ok (.iconst 1, 1) := by decide +kernel
theorem dX6_agrees_70 : decode cX6_agrees 70 = .ok (.iadd, 1) := by decide +kernel
theorem dX6_agrees_71 : decode cX6_agrees 71 = .ok (.iastore, 1) := by decide +kernel
theorem dX6_agrees_72 : decode cX6_agrees 72 = .ok (.aload_n 0, 1) := by decide +kernel
theorem dX6_agrees_73 : decode cX6_agrees 73 = .ok (.getfield 7, 3) := by decide +kernel
theorem dX6_agrees_76 : decode cX6_agrees 76 = .ok (.iconst 4, 1) := by decide +kernel
theorem dX6_agrees_77 : decode cX6_agrees 77 = .ok (.iaload, 1) := by decide +kernel
theorem dX6_agrees_78 : decode cX6_agrees 78 = .ok (.iconst 1, 1) := by decide +kernel
theorem dX6_agrees_79 : decode cX6_agrees 79 = .ok (.isub, 1) := by decide +kernel
theorem dX6_agrees_80 : decode cX6_agrees 80 = .ok (.aload_n 0, 1) := by decide +kernel
theorem dX6_agrees_81 : decode cX6_agrees 81 = .ok (.getfield 7, 3) := by decide +kernel
theorem dX6_agrees_84 : decode cX6_agrees 84 = .ok (.iconst 5, 1) := by decide +kernel
theorem dX6_agrees_85 : decode cX6_agrees 85 = .ok (.iaload, 1) := by decide +kernel
theorem dX6_agrees_86 : decode cX6_agrees 86 = .ok (.if_icmp .ne (-79), 3) := by decide +kernel
theorem dX6_agrees_89 : decode cX6_agrees 89 = .ok (.aload_n 0, 1) := by decide +kernel
theorem dX6_agrees_90 : decode cX6_agrees 90 = .ok (.invokevirtual 49, 3) := by decide +kernel
theorem dX6_agrees_93 : decode cX6_agrees 93 = .ok (.goto (-86), 3) := by decide +kernel
theorem dX6_agrees_96 : decode cX6_agrees 96 = .ok (.aload_n 0, 1) := by decide +kernel
theorem dX6_agrees_97 : decode cX6_agrees 97 = .ok (.getfield 7, 3) := by decide +kernel
theorem dX6_agrees_100 : decode cX6_agrees 100 = .ok (.iconst 4, 1) := by decide +kernel
theorem dX6_agrees_101 : decode cX6_agrees 101 = .ok (.iaload, 1) := by decide +kernel
theorem dX6_agrees_102 : decode cX6_agrees 102 = .ok (.iload_n 1, 1) := by decide +kernel
theorem dX6_agrees_103 : decode cX6_agrees 103 = .ok (.isub, 1) := by decide +kernel
theorem dX6_agrees_104 : decode cX6_agrees 104 = .ok (.ireturn, 1) := by decide +kernel
set_option maxRecDepth 20000 in
theorem ggX6_come_X6_acts : GoodIn wsX6_come wsX6_acts := goodIn_r _ [6, 7, 8, 9, 1, 10, 11, 12, 13, 14, 15, 16, 17, 18] (by decide +kernel) (by decide +kernel)
set_option maxRecDepth 20000 in
theorem gX6_come_X6_acts : GoodIn wsX6_come (wsV RX6 52 RX6 yX6_acts wsX6_acts) := goodIn_app (goodIn_of _ (by decide +kernel)) ggX6_come_X6_acts
theorem dX6_come_0 : decode cX6_come 0 = .ok (.aload_n 0, 1) := by decide +kernel
theorem dX6_come_1 : decode cX6_come 1 = .ok (.getfield 7, 3) := by decide +kernel
theorem dX6_come_4 : decode cX6_come 4 = .ok (.iconst 0, 1) := by decide +kernel
theorem dX6_come_5 : decode cX6_come 5 = .ok (.iaload, 1) := by decide +kernel
theorem dX6_come_6 : decode cX6_come 6 = .ok (.bipush 12, 2) := by decide +kernel
theorem dX6_come_8 : decode cX6_come 8 = .ok (.if_icmp .ne 6, 3) := by decide +kernel
theorem dX6_come_11 : decode cX6_come 11 = .ok (.bipush (-3), 2) := by decide +kernel
theorem dX6_come_13 : decode cX6_come 13 = .ok (.ireturn, 1) := by decide +kernel
theorem dX6_come_14 : decode cX6_come 14 = .ok (.aload_n 0, 1) := by decide +kernel
theorem dX6_come_15 : decode cX6_come 15 = .ok (.invokevirtual 52, 3) := by decide +kernel
theorem dX6_come_18 : decode cX6_come 18 = .ok (.aload_n 0, 1) := by decide +kernel
theorem dX6_come_19 : decode cX6_come 19 = .ok (.getfield 7, 3) := by decide +kernel
theorem dX6_come_22 : decode cX6_come 22 = .ok (.iconst 0, 1) := by decide +kernel
theorem dX6_come_23 : decode cX6_come 23 = .ok (.iaload, 1) := by decide +kernel
theorem dX6_come_24 : decode cX6_come 24 = .ok (.istore_n 1, 1) := by decide +kernel
theorem dX6_come_25 : decode cX6_come 25 = .ok (.aload_n 0, 1) := by decide +kernel
theorem dX6_come_26 : decode cX6_come 26 = .ok (.getfield 7, 3) := by decide +kernel
theorem dX6_come_29 : decode cX6_come 29 = .ok (.bipush 8, 2) := by decide +kernel
theorem dX6_come_31 : decode cX6_come 31 = .ok (.iload_n 1, 1) := by decide +kernel
theorem dX6_come_32 : decode cX6_come 32 = .ok (.iadd, 1) := by decide +kernel
theorem dX6_come_33 : decode cX6_come 33 = .ok (.iconst 1, 1) := by decide +kernel
theorem dX6_come_34 : decode cX6_come 34 = .ok (.iastore, 1) := by decide +kernel
theorem dX6_come_35 : decode cX6_come 35 = .ok (.aload_n 0, 1) := by decide +kernel
theorem dX6_come_36 : decode cX6_come 36 = .ok (.getfield 7, 3) := by decide +kernel
theorem dX6_come_39 : decode cX6_come 39 = .ok (.bipush 20, 2) := by decide +kernel
theorem dX6_come_41 : decode cX6_come 41 = .ok (.iload_n 1, 1) := by decide +kernel
theorem dX6_come_42 : decode cX6_come 42 = .ok (.iadd, 1) := by decide +kernel
theorem dX6_come_43 : decode cX6_come 43 = .ok (.iconst 0, 1) := by decide +kernel
theorem dX6_come_44 : decode cX6_come 44 = .ok (.iastore, 1) := by decide +kernel
theorem dX6_come_45 : decode cX6_come 45 = .ok (.aload_n 0, 1) := by decide +kernel
theorem dX6_come_46 : decode cX6_come 46 = .ok (.getfield 7, 3) := by decide +kernel
theorem dX6_come_49 : decode cX6_come 49 = .ok (.iconst 0, 1) := by decide +kernel
theorem dX6_come_50 : decode cX6_come 50 = .ok (.dup2, 1) := by decide +kernel
theorem dX6_come_51 : decode cX6_come 51 = .ok (.iaload, 1) := by decide +kernel
theorem dX6_come_52 : decode cX6_come 52 = .ok (.iconst 1, 1) := by decide +kernel
theorem dX6_come_53 : decode cX6_come 53 = .ok (.iadd, 1) := by decide +kernel
theorem dX6_come_54 : decode cX6_come 54 = .ok (.iastore, 1) := by decide +kernel
theorem dX6_come_55 : decode cX6_come 55 = .ok (.iload_n 1, 1) := by decide +kernel
theorem dX6_come_56 : decode cX6_come 56 = .ok (.ireturn, 1) := by decide +kernel
theorem dX6_present_0 : decode cX6_present 0 = .ok (.iconst 0, 1) := by decide +kernel
theorem dX6_present_1 : decode cX6_present 1 = .ok (.istore_n 1, 1) := by decide +kernel
theorem dX6_present_2 : decode cX6_present 2 = .ok (.iconst 0, 1) := by decide +kernel
theorem dX6_present_3 : decode cX6_present 3 = .ok (.istore_n 2, 1) := by decide +kernel
theorem dX6_present_4 : decode cX6_present 4 = .ok (.iload_n 2, 1) := by decide +kernel
theorem dX6_present_5 : decode cX6_present 5 = .ok (.aload_n 0, 1) := by decide +kernel
theorem dX6_present_6 : decode cX6_present 6 = .ok (.getfield 7, 3) := by decide +kernel
theorem dX6_present_9 : decode cX6_present 9 = .ok (.iconst 0, 1) := by decide +kernel
theorem dX6_present_10 : decode cX6_present 10 = .ok (.iaload, 1) := by decide +kernel
theorem dX6_present_11 : decode cX6_present 11 = .ok (.if_icmp .ge 21, 3) := by decide +kernel
theorem dX6_present_14 : decode cX6_present 14 = .ok (.iload_n 1, 1) := by decide +kernel
theorem dX6_present_15 : decode cX6_present 15 = .ok (.aload_n 0, 1) := by decide +kernel
theorem dX6_present_16 : decode cX6_present 16 = .ok (.getfield 7, 3) := by decide +kernel
theorem dX6_present_19 : decode cX6_present 19 = .ok (.bipush 8, 2) := by decide +kernel
theorem dX6_present_21 : decode cX6_present 21 = .ok (.iload_n 2, 1) := by decide +kernel
theorem dX6_present_22 : decode cX6_present 22 = .ok (.iadd, 1) := by decide +kernel
theorem dX6_present_23 : decode cX6_present 23 = .ok (.iaload, 1) := by decide +kernel
theorem dX6_present_24 : decode cX6_present 24 = .ok (.iadd, 1) := by decide +kernel
theorem dX6_present_25 : decode cX6_present 25 = .ok (.istore_n 1, 1) := by decide +kernel
theorem dX6_present_26 : decode cX6_present 26 = .ok (.iinc 2 1, 3) := by decide +kernel
theorem dX6_present_29 : decode cX6_present 29 = .ok (.goto (-25), 3) := by decide +kernel
theorem dX6_present_32 : decode cX6_present 32 = .ok (.iload_n 1, 1) := by decide +kernel
theorem dX6_present_33 : decode cX6_present 33 = .ok (.ireturn, 1) := by decide +kernel
set_option maxRecDepth 20000 in
theorem ggX6_attend_X6_isVillager : GoodIn wsX6_attend wsX6_isVillager := goodIn_r _ [6, 1, 21, 22, 23, 24, 25, 26, 27, 28, 29] (by decide +kernel) (by decide +kernel)
set_option maxRecDepth 20000 in
theorem gX6_attend_X6_isVillager : GoodIn wsX6_attend (wsV RX6 55 RX6 yX6_isVillager wsX6_isVillager) := goodIn_app (goodIn_of _ (by decide +kernel)) ggX6_attend_X6_isVillager
set_option maxRecDepth 20000 in
theorem ggX6_attend_X6_in : GoodIn wsX6_attend wsX6_in := goodIn_r _ [9] (by decide +kernel) (by decide +kernel)
set_option maxRecDepth 20000 in
theorem gX6_attend_X6_in : GoodIn wsX6_attend (va_wsS RX6 58 yX6_in wsX6_in) := goodIn_app (goodIn_of _ (by decide +kernel)) ggX6_attend_X6_in
set_option maxRecDepth 20000 in
theorem ggX6_attend_X6_acts : GoodIn wsX6_attend wsX6_acts := goodIn_r _ [13, 14, 15, 16, 1, 21, 22, 23, 24, 25, 26, 27, 28, 29] (by decide +kernel) (by decide +kernel)
set_option maxRecDepth 20000 in
theorem gX6_attend_X6_acts : GoodIn wsX6_attend (wsV RX6 52 RX6 yX6_acts wsX6_acts) := goodIn_app (goodIn_of _ (by decide +kernel)) ggX6_attend_X6_acts
set_option maxRecDepth 20000 in
theorem ggX6_attend_X6_present : GoodIn wsX6_attend wsX6_present := goodIn_r _ [20, 1, 21, 22, 23, 24, 25, 26, 27, 28, 29] (by decide +kernel) (by decide +kernel)
set_option maxRecDepth 20000 in
theorem gX6_attend_X6_present : GoodIn wsX6_attend (wsV RX6 62 RX6 yX6_present wsX6_present) := goodIn_app (goodIn_of _ (by decide +kernel)) ggX6_attend_X6_present
theorem dX6_attend_0 : decode cX6_attend 0 = .ok (.aload_n 0, 1) := by decide +kernel
theorem dX6_attend_1 : decode cX6_attend 1 = .ok (.iload_n 1, 1) := by decide +kernel
theorem dX6_attend_2 : decode cX6_attend 2 = .ok (.invokevirtual 55, 3) := by decide +kernel
theorem dX6_attend_5 : decode cX6_attend 5 = .ok (.ifCond .eq 12, 3) := by decide +kernel
theorem dX6_attend_8 : decode cX6_attend 8 = .ok (.iload_n 2, 1) := by decide +kernel
theorem dX6_attend_9 : decode cX6_attend 9 = .ok (.iconst 0, 1) := by decide +kernel
theorem dX6_attend_10 : decode cX6_attend 10 = .ok (.iconst 1, 1) := by decide +kernel
theorem dX6_attend_11 : decode cX6_attend 11 = .ok (.invokestatic 58, 3) := by decide +kernel
theorem dX6_attend_14 : decode cX6_attend 14 = .ok (.ifCond .ne 5, 3) := by decide +kernel
theorem dX6_attend_17 : decode cX6_attend 17 = .ok (.iconst (-1), 1) := by decide +kernel
theorem dX6_attend_18 : decode cX6_attend 18 = .ok (.ireturn, 1) := by decide +kernel
theorem dX6_attend_19 : decode cX6_attend 19 = .ok (.aload_n 0, 1) := by decide +kernel
theorem dX6_attend_20 : decode cX6_attend 20 = .ok (.getfield 7, 3) := by decide +kernel
theorem dX6_attend_23 : decode cX6_attend 23 = .ok (.bipush 8, 2) := by decide +kernel
theorem dX6_attend_25 : decode cX6_attend 25 = .ok (.iload_n 1, 1) := by decide +kernel
theorem dX6_attend_26 : decode cX6_attend 26 = .ok (.iadd, 1) := by decide +kernel
theorem dX6_attend_27 : decode cX6_attend 27 = .ok (.iaload, 1) := by decide +kernel
theorem dX6_attend_28 : decode cX6_attend 28 = .ok (.iload_n 2, 1) := by decide +kernel
theorem dX6_attend_29 : decode cX6_attend 29 = .ok (.if_icmp .ne 6, 3) := by decide +kernel
theorem dX6_attend_32 : decode cX6_attend 32 = .ok (.bipush (-2), 2) := by decide +kernel
theorem dX6_attend_34 : decode cX6_attend 34 = .ok (.ireturn, 1) := by decide +kernel
theorem dX6_attend_35 : decode cX6_attend 35 = .ok (.aload_n 0, 1) := by decide +kernel
theorem dX6_attend_36 : decode cX6_attend 36 = .ok (.invokevirtual 52, 3) := by decide +kernel
theorem dX6_attend_39 : decode cX6_attend 39 = .ok (.aload_n 0, 1) := by decide +kernel
theorem dX6_attend_40 : decode cX6_attend 40 = .ok (.getfield 7, 3) := by decide +kernel
theorem dX6_attend_43 : decode cX6_attend 43 = .ok (.bipush 8, 2) := by decide +kernel
theorem dX6_attend_45 : decode cX6_attend 45 = .ok (.iload_n 1, 1) := by decide +kernel
theorem dX6_attend_46 : decode cX6_attend 46 = .ok (.iadd, 1) := by decide +kernel
theorem dX6_attend_47 : decode cX6_attend 47 = .ok (.iload_n 2, 1) := by decide +kernel
theorem dX6_attend_48 : decode cX6_attend 48 = .ok (.iastore, 1) := by decide +kernel
theorem dX6_attend_49 : decode cX6_attend 49 = .ok (.aload_n 0, 1) := by decide +kernel
theorem dX6_attend_50 : decode cX6_attend 50 = .ok (.invokevirtual 62, 3) := by decide +kernel
theorem dX6_attend_53 : decode cX6_attend 53 = .ok (.ireturn, 1) := by decide +kernel
set_option maxRecDepth 20000 in
theorem ggX6_found_X6_in : GoodIn wsX6_found wsX6_in := goodIn_r _ [5] (by decide +kernel) (by decide +kernel)
set_option maxRecDepth 20000 in
theorem gX6_found_X6_in : GoodIn wsX6_found (va_wsS RX6 58 yX6_in wsX6_in) := goodIn_app (goodIn_of _ (by decide +kernel)) ggX6_found_X6_in
set_option maxRecDepth 20000 in
theorem ggX6_found_X6_acts : GoodIn wsX6_found wsX6_acts := goodIn_r _ [9, 10, 11, 12, 1, 13, 14, 15, 16, 17, 18, 19, 20, 21] (by decide +kernel) (by decide +kernel)
set_option maxRecDepth 20000 in
theorem gX6_found_X6_acts : GoodIn wsX6_found (wsV RX6 52 RX6 yX6_acts wsX6_acts) := goodIn_app (goodIn_of _ (by decide +kernel)) ggX6_found_X6_acts
theorem dX6_found_0 : decode cX6_found 0 = .ok (.iload_n 1, 1) := by decide +kernel
theorem dX6_found_1 : decode cX6_found 1 = .ok (.iconst 1, 1) := by decide +kernel
theorem dX6_found_2 : decode cX6_found 2 = .ok (.iconst 5, 1) := by decide +kernel
theorem dX6_found_3 : decode cX6_found 3 = .ok (.invokestatic 58, 3) := by decide +kernel
theorem dX6_found_6 : decode cX6_found 6 = .ok (.ifCond .ne 5, 3) := by decide +kernel
theorem dX6_found_9 : decode cX6_found 9 = .ok (.iconst (-1), 1) := by decide +kernel
theorem dX6_found_10 : decode cX6_found 10 = .ok (.ireturn, 1) := by decide +kernel
theorem dX6_found_11 : decode cX6_found 11 = .ok (.aload_n 0, 1) := by decide +kernel
theorem dX6_found_12 : decode cX6_found 12 = .ok (.getfield 7, 3) := by decide +kernel
theorem dX6_found_15 : decode cX6_found 15 = .ok (.iconst 1, 1) := by decide +kernel
theorem dX6_found_16 : decode cX6_found 16 = .ok (.iaload, 1) := by decide +kernel
theorem dX6_found_17 : decode cX6_found 17 = .ok (.ifCond .gt 13, 3) := by decide +kernel
theorem dX6_found_20 : decode cX6_found 20 = .ok (.aload_n 0, 1) := by decide +kernel
theorem dX6_found_21 : decode cX6_found 21 = .ok (.getfield 7, 3) := by decide +kernel
theorem dX6_found_24 : decode cX6_found 24 = .ok (.iconst 0, 1) := by decide +kernel
theorem dX6_found_25 : decode cX6_found 25 = .ok (.iaload, 1) := by decide +kernel
theorem dX6_found_26 : decode cX6_found 26 = .ok (.iload_n 1, 1) := by decide +kernel
theorem dX6_found_27 : decode cX6_found 27 = .ok (.if_icmp .ge 6, 3) := by decide +kernel
theorem dX6_found_30 : decode cX6_found 30 = .ok (.bipush (-2), 2) := by decide +kernel
theorem dX6_found_32 : decode cX6_found 32 = .ok (.ireturn, 1) := by decide +kernel
theorem dX6_found_33 : decode cX6_found 33 = .ok (.aload_n 0, 1) := by decide +kernel
theorem dX6_found_34 : decode cX6_found 34 = .ok (.invokevirtual 52, 3) := by decide +kernel
theorem dX6_found_37 : decode cX6_found 37 = .ok (.aload_n 0, 1) := by decide +kernel
theorem dX6_found_38 : decode cX6_found 38 = .ok (.getfield 7, 3) := by decide +kernel
theorem dX6_found_41 : decode cX6_found 41 = .ok (.iconst 1, 1) := by decide +kernel
theorem dX6_found_42 : decode cX6_found 42 = .ok (.iload_n 1, 1) := by decide +kernel
theorem dX6_found_43 : decode cX6_found 43 = .ok (.iastore, 1) := by decide +kernel
theorem dX6_found_44 : decode cX6_found 44 = .ok (.iconst 0, 1) := by decide +kernel
theorem dX6_found_45 : decode cX6_found 45 = .ok (.istore_n 2, 1) := by decide +kernel
theorem dX6_found_46 : decode cX6_found 46 = .ok (.iload_n 2, 1) := by decide +kernel
theorem dX6_found_47 : decode cX6_found 47 = .ok (.iload_n 1, 1) := by decide +kernel
theorem dX6_found_48 : decode cX6_found 48 = .ok (.if_icmp .ge 19, 3) := by decide +kernel
theorem dX6_found_51 : decode cX6_found 51 = .ok (.aload_n 0, 1) := by decide +kernel
theorem dX6_found_52 : decode cX6_found 52 = .ok (.getfield 7, 3) := by decide +kernel
theorem dX6_found_55 : decode cX6_found 55 = .ok (.bipush 32, 2) := by decide +kernel
theorem dX6_found_57 : decode cX6_found 57 = .ok (.iload_n 2, 1) := by decide +kernel
theorem dX6_found_58 : decode cX6_found 58 = .ok (.iadd, 1) := by decide +kernel
theorem dX6_found_59 : decode cX6_found 59 = .ok (.iload_n 2, 1) := by decide +kernel
theorem dX6_found_60 : decode cX6_found 60 = .ok (.iastore, 1) := by decide +kernel
theorem dX6_found_61 : decode cX6_found 61 = .ok (.iinc 2 1, 3) := by decide +kernel
theorem dX6_found_64 : decode cX6_found 64 = .ok (.goto (-18), 3) := by decide +kernel
theorem dX6_found_67 : decode cX6_found 67 = .ok (.iload_n 1, 1) := by decide +kernel
theorem dX6_found_68 : decode cX6_found 68 = .ok (.ireturn, 1) := by decide +kernel
set_option maxRecDepth 20000 in
theorem ggX6_setLot_X6_in : GoodIn wsX6_setLot wsX6_in := goodIn_r _ [6] (by decide +kernel) (by decide +kernel)
set_option maxRecDepth 20000 in
theorem gX6_setLot_X6_in : GoodIn wsX6_setLot (va_wsS RX6 58 yX6_in wsX6_in) := goodIn_app (goodIn_of _ (by decide +kernel)) ggX6_setLot_X6_in
set_option maxRecDepth 20000 in
theorem ggX6_setLot_X6_acts : GoodIn wsX6_setLot wsX6_acts := goodIn_r _ [10, 11, 12, 13, 2, 14, 15, 16, 17, 18, 19, 20, 21, 22] (by decide +kernel) (by decide +kernel)
set_option maxRecDepth 20000 in
theorem gX6_setLot_X6_acts : GoodIn wsX6_setLot (wsV RX6 52 RX6 yX6_acts wsX6_acts) := goodIn_app (goodIn_of _ (by decide +kernel)) ggX6_setLot_X6_acts
theorem dX6_setLot_0 : decode cX6_setLot 0 = .ok (.iload_n 1, 1) := by decide +kernel
theorem dX6_setLot_1 : decode cX6_setLot 1 = .ok (.iconst 0, 1) := by decide +kernel
theorem dX6_setLot_2 : decode cX6_setLot 2 = .ok (.ldc 65, 2) := by decide +kernel
theorem dX6_setLot_4 : decode cX6_setLot 4 = .ok (.invokestatic 58, 3) := by decide +kernel
theorem dX6_setLot_7 : decode cX6_setLot 7 = .ok (.ifCond .ne 5, 3) := by decide +kernel
theorem dX6_setLot_10 : decode cX6_setLot 10 = .ok (.iconst (-1), 1) := by decide +kernel
theorem dX6_setLot_11 : decode cX6_setLot 11 = .ok (.ireturn, 1) := by decide +kernel
theorem dX6_setLot_12 : decode cX6_setLot 12 = .ok (.aload_n 0, 1) := by decide +kernel
theorem dX6_setLot_13 : decode cX6_setLot 13 = .ok (.invokevirtual 52, 3) := by decide +kernel
theorem dX6_setLot_16 : decode cX6_setLot 16 = .ok (.aload_n 0, 1) := by decide +kernel
theorem dX6_setLot_17 : decode cX6_setLot 17 = .ok (.getfield 7, 3) := by decide +kernel
theorem dX6_setLot_20 : decode cX6_setLot 20 = .ok (.bipush 6, 2) := by decide +kernel
theorem dX6_setLot_22 : decode cX6_setLot 22 = .ok (.iaload, 1) := by decide +kernel
theorem dX6_setLot_23 : decode cX6_setLot 23 = .ok (.istore_n 2, 1) := by decide +kernel
theorem dX6_setLot_24 : decode cX6_setLot 24 = .ok (.aload_n 0, 1) := by decide +kernel
theorem dX6_setLot_25 : decode cX6_setLot 25 = .ok (.getfield 7, 3) := by decide +kernel
theorem dX6_setLot_28 : decode cX6_setLot 28 = .ok (.bipush 6, 2) := by decide +kernel
theorem dX6_setLot_30 : decode cX6_setLot 30 = .ok (.iload_n 1, 1) := by decide +kernel
theorem dX6_setLot_31 : decode cX6_setLot 31 = .ok (.iastore, 1) := by decide +kernel
theorem dX6_setLot_32 : decode cX6_setLot 32 = .ok (.iload_n 2, 1) := by decide +kernel
theorem dX6_setLot_33 : decode cX6_setLot 33 = .ok (.ireturn, 1) := by decide +kernel
set_option maxRecDepth 20000 in
theorem ggX6_candidates_X6_seatOf : GoodIn wsX6_candidates wsX6_seatOf := goodIn_r _ [6, 1, 7, 8, 9, 10, 11, 12, 13, 14, 15] (by decide +kernel) (by decide +kernel)
set_option maxRecDepth 20000 in
theorem gX6_candidates_X6_seatOf : GoodIn wsX6_candidates (wsV RX6 34 RX6 yX6_seatOf wsX6_seatOf) := goodIn_app (goodIn_of _ (by decide +kernel)) ggX6_candidates_X6_seatOf
theorem dX6_candidates_0 : decode cX6_candidates 0 = .ok (.iconst 0, 1) := by decide +kernel
theorem dX6_candidates_1 : decode cX6_candidates 1 = .ok (.istore_n 1, 1) := by decide +kernel
theorem dX6_candidates_2 : decode cX6_candidates 2 = .ok (.iconst 0, 1) := by decide +kernel
theorem dX6_candidates_3 : decode cX6_candidates 3 = .ok (.istore_n 2, 1) := by decide +kernel
theorem dX6_candidates_4 : decode cX6_candidates 4 = .ok (.iload_n 2, 1) := by decide +kernel
theorem dX6_candidates_5 : decode cX6_candidates 5 = .ok (.aload_n 0, 1) := by decide +kernel
theorem dX6_candidates_6 : decode cX6_candidates 6 = .ok (.getfield 7, 3) := by decide +kernel
theorem dX6_candidates_9 : decode cX6_candidates 9 = .ok (.iconst 0, 1) := by decide +kernel
theorem dX6_candidates_10 : decode cX6_candidates 10 = .ok (.iaload, 1) := by decide +kernel
theorem dX6_candidates_11 : decode cX6_candidates 11 = .ok (.if_icmp .ge 29, 3) := by decide +kernel
theorem dX6_candidates_14 : decode cX6_candidates 14 = .ok (.iload_n 1, 1) := by decide +kernel
theorem dX6_candidates_15 : decode cX6_candidates 15 = .ok (.aload_n 0, 1) := by decide +kernel
theorem dX6_candidates_16 : decode cX6_candidates 16 = .ok (.bipush 32, 2) := by decide +kernel
theorem dX6_candidates_18 : decode cX6_candidates 18 = .ok (.iload_n 2, 1) := by decide +kernel
theorem dX6_candidates_19 : decode cX6_candidates 19 = .ok (.invokevirtual 34, 3) := by decide +kernel
theorem dX6_candidates_22 : decode cX6_candidates 22 = .ok (.bipush (-9), 2) := by decide +kernel
theorem dX6_candidates_24 : decode cX6_candidates 24 = .ok (.if_icmp .ne 7, 3) := by decide +kernel
theorem dX6_candidates_27 : decode cX6_candidates 27 = .ok (.iconst 1, 1) := by decide +kernel
theorem dX6_candidates_28 : decode cX6_candidates 28 = .ok (.goto 4, 3) := by decide +kernel
theorem dX6_candidates_31 : decode cX6_candidates 31 = .ok (.iconst 0, 1) := by decide +kernel
theorem dX6_candidates_32 : decode cX6_candidates 32 = .ok (.iadd, 1) := by decide +kernel
theorem dX6_candidates_33 : decode cX6_candidates 33 = .ok (.istore_n 1, 1) := by decide +kernel
theorem dX6_candidates_34 : decode cX6_candidates 34 = .ok (.iinc 2 1, 3) := by decide +kernel
theorem dX6_candidates_37 : decode cX6_candidates 37 = .ok (.goto (-33), 3) := by decide +kernel
theorem dX6_candidates_40 : decode cX6_candidates 40 = .ok (.iload_n 1, 1) := by decide +kernel
theorem dX6_candidates_41 : decode cX6_candidates 41 = .ok (.ireturn, 1) := by decide +kernel
theorem dX6_drawn_0 : decode cX6_drawn 0 = .ok (.iload_n 0, 1) := by decide +kernel
theorem dX6_drawn_1 : decode cX6_drawn 1 = .ok (.i2l, 1) := by decide +kernel
theorem dX6_drawn_2 : decode cX6_drawn 2 = .ok (.ldc2_w 66, 3) := by decide +kernel
theorem dX6_drawn_5 : decode cX6_drawn 5 = .ok (.lmul, 1) := by decide +kernel
theorem dX6_drawn_6 : decode cX6_drawn 6 = .ok (.ldc2_w 68, 3) := by decide +kernel
theorem dX6_drawn_9 : decode cX6_drawn 9 = .ok (.ladd, 1) := by decide +kernel
theorem dX6_drawn_10 : decode cX6_drawn 10 = .ok (.ldc2_w 70, 3) := by decide +kernel
theorem dX6_drawn_13 : decode cX6_drawn 13 = .ok (.lrem, 1) := by decide +kernel
theorem dX6_drawn_14 : decode cX6_drawn 14 = .ok (.l2i, 1) := by decide +kernel
theorem dX6_drawn_15 : decode cX6_drawn 15 = .ok (.ireturn, 1) := by decide +kernel
set_option maxRecDepth 20000 in
theorem ggX6_candidate_X6_seatOf : GoodIn wsX6_candidate wsX6_seatOf := goodIn_r _ [6, 1, 7, 8, 9, 10, 11, 12, 13, 14, 15] (by decide +kernel) (by decide +kernel)
set_option maxRecDepth 20000 in
theorem gX6_candidate_X6_seatOf : GoodIn wsX6_candidate (wsV RX6 34 RX6 yX6_seatOf wsX6_seatOf) := goodIn_app (goodIn_of _ (by decide +kernel)) ggX6_candidate_X6_seatOf
theorem dX6_candidate_0 : decode cX6_candidate 0 = .ok (.iconst 0, 1) := by decide +kernel
theorem dX6_candidate_1 : decode cX6_candidate 1 = .ok (.istore_n 2, 1) := by decide +kernel
theorem dX6_candidate_2 : decode cX6_candidate 2 = .ok (.bipush (-9), 2) := by decide +kernel
theorem dX6_candidate_4 : decode cX6_candidate 4 = .ok (.istore_n 3, 1) := by decide +kernel
theorem dX6_candidate_5 : decode cX6_candidate 5 = .ok (.iconst 0, 1) := by decide +kernel
theorem dX6_candidate_6 : decode cX6_candidate 6 = .ok (.istore 4, 2) := by decide +kernel
theorem dX6_candidate_8 : decode cX6_candidate 8 = .ok (.iload 4, 2) := by decide +kernel
theorem dX6_candidate_10 : decode cX6_candidate 10 = .ok (.aload_n 0, 1) := by decide +kernel
theorem dX6_candidate_11 : decode cX6_candidate 11 = .ok (.getfield 7, 3) := by decide +kernel
theorem dX6_candidate_14 : decode cX6_candidate 14 = .ok (.iconst 0, 1) := by decide +kernel
theorem dX6_candidate_15 : decode cX6_candidate 15 = .ok (.iaload, 1) := by decide +kernel
theorem dX6_candidate_16 : decode cX6_candidate 16 = .ok (.if_icmp .ge 59, 3) := by decide +kernel
theorem dX6_candidate_19 : decode cX6_candidate 19 = .ok (.aload_n 0, 1) := by decide +kernel
theorem dX6_candidate_20 : decode cX6_candidate 20 = .ok (.bipush 32, 2) := by decide +kernel
theorem dX6_candidate_22 : decode cX6_candidate 22 = .ok (.iload 4, 2) := by decide +kernel
theorem dX6_candidate_24 : decode cX6_candidate 24 = .ok (.invokevirtual 34, 3) := by decide +kernel
theorem dX6_candidate_27 : decode cX6_candidate 27 = .ok (.bipush (-9), 2) := by decide +kernel
theorem dX6_candidate_29 : decode cX6_candidate 29 = .ok (.if_icmp .ne 7, 3) := by decide +kernel
theorem dX6_candidate_32 : decode cX6_candidate 32 = .ok (.iconst 1, 1) := by decide +kernel
theorem dX6_candidate_33 : decode cX6_candidate 33 = .ok (.goto 4, 3) := by decide +kernel
theorem dX6_candidate_36 : decode cX6_candidate 36 = .ok (.iconst 0, 1) := by decide +kernel
theorem dX6_candidate_37 : decode cX6_candidate 37 = .ok (.istore 5, 2) := by decide +kernel
theorem dX6_candidate_39 : decode cX6_candidate 39 = .ok (.iload 5, 2) := by decide +kernel
theorem dX6_candidate_41 : decode cX6_candidate 41 = .ok (.ifCond .eq 13, 3) := by decide +kernel
theorem dX6_candidate_44 : decode cX6_candidate 44 = .ok (.iload_n 2, 1) := by decide +kernel
theorem dX6_candidate_45 : decode cX6_candidate 45 = .ok (.iload_n 1, 1) := by decide +kernel
theorem dX6_candidate_46 : decode cX6_candidate 46 = .ok (.if_icmp .ne 8, 3) := by decide +kernel
theorem dX6_candidate_49 : decode cX6_candidate 49 = .ok (.iload 4, 2) := by decide +kernel
theorem dX6_candidate_51 : decode cX6_candidate 51 = .ok (.goto 4, 3) := by decide +kernel
theorem dX6_candidate_54 : decode cX6_candidate 54 = .ok (.iload_n 3, 1) := by decide +kernel
theorem dX6_candidate_55 : decode cX6_candidate 55 = .ok (.istore_n 3, 1) := by decide +kernel
theorem dX6_candidate_56 : decode cX6_candidate 56 = .ok (.iload_n 2, 1) := by decide +kernel
theorem dX6_candidate_57 : decode cX6_candidate 57 = .ok (.iload 5, 2) := by decide +kernel
theorem dX6_candidate_59 : decode cX6_candidate 59 = .ok (.ifCond .eq 7, 3) := by decide +kernel
theorem dX6_candidate_62 : decode cX6_candidate 62 = .ok (.iconst 1, 1) := by decide +kernel
theorem dX6_candidate_63 : decode cX6_candidate 63 = .ok (.goto 4, 3) := by decide +kernel
theorem dX6_candidate_66 : decode cX6_candidate 66 = .ok (.iconst 0, 1) := by decide +kernel
theorem dX6_candidate_67 : decode cX6_candidate 67 = .ok (.iadd, 1) := by decide +kernel
theorem dX6_candidate_68 : decode cX6_candidate 68 = .ok (.istore_n 2, 1) := by decide +kernel
theorem dX6_candidate_69 : decode cX6_candidate 69 = .ok (.iinc 4 1, 3) := by decide +kernel
theorem dX6_candidate_72 : decode cX6_candidate 72 = .ok (.goto (-64), 3) := by decide +kernel
theorem dX6_candidate_75 : decode cX6_candidate 75 = .ok (.iload_n 3, 1) := by decide +kernel
theorem dX6_candidate_76 : decode cX6_candidate 76 = .ok (.ireturn, 1) := by decide +kernel
set_option maxRecDepth 20000 in
theorem ggX6_canWrite_X6_isElder : GoodIn wsX6_canWrite wsX6_isElder := goodIn_r _ [6, 7, 8, 9, 5, 10, 1, 11, 12, 13, 14, 15, 16, 17, 18, 23, 24, 25, 26, 27, 28, 29, 30, 31] (by decide +kernel) (by decide +kernel)
set_option maxRecDepth 20000 in
theorem gX6_canWrite_X6_isElder : GoodIn wsX6_canWrite (wsV RX6 72 RX6 yX6_isElder wsX6_isElder) := goodIn_app (goodIn_of _ (by decide +kernel)) ggX6_canWrite_X6_isElder
set_option maxRecDepth 20000 in
theorem ggX6_canWrite_X6_isPresent : GoodIn wsX6_canWrite wsX6_isPresent := goodIn_r _ [22, 1, 23, 24, 25, 26, 27, 28, 29, 30, 31] (by decide +kernel) (by decide +kernel)
set_option maxRecDepth 20000 in
theorem gX6_canWrite_X6_isPresent : GoodIn wsX6_canWrite (wsV RX6 75 RX6 yX6_isPresent wsX6_isPresent) := goodIn_app (goodIn_of _ (by decide +kernel)) ggX6_canWrite_X6_isPresent
theorem dX6_canWrite_0 : decode cX6_canWrite 0 = .ok (.aload_n 0, 1) := by decide +kernel
theorem dX6_canWrite_1 : decode cX6_canWrite 1 = .ok (.iload_n 1, 1) := by decide +kernel
theorem dX6_canWrite_2 : decode cX6_canWrite 2 = .ok (.invokevirtual 72, 3) := by decide +kernel
theorem dX6_canWrite_5 : decode cX6_canWrite 5 = .ok (.ifCond .eq 33, 3) := by decide +kernel
theorem dX6_canWrite_8 : decode cX6_canWrite 8 = .ok (.aload_n 0, 1) := by decide +kernel
theorem dX6_canWrite_9 : decode cX6_canWrite 9 = .ok (.iload_n 1, 1) := by decide +kernel
theorem dX6_canWrite_10 : decode cX6_canWrite 10 = .ok (.invokevirtual 75, 3) := by decide +kernel
theorem dX6_canWrite_13 : decode cX6_canWrite 13 = .ok (.ifCond .eq 25, 3) := by decide +kernel
theorem dX6_canWrite_16 : decode cX6_canWrite 16 = .ok (.aload_n 0, 1) := by decide +kernel
theorem dX6_canWrite_17 : decode cX6_canWrite 17 = .ok (.getfield 7, 3) := by decide +kernel
theorem dX6_canWrite_20 : decode cX6_canWrite 20 = .ok (.bipush 20, 2) := by decide +kernel
theorem dX6_canWrite_22 : decode cX6_canWrite 22 = .ok (.iload_n 1, 1) := by decide +kernel
theorem dX6_canWrite_23 : decode cX6_canWrite 23 = .ok (.iadd, 1) := by decide +kernel
theorem dX6_canWrite_24 : decode cX6_canWrite 24 = .ok (.iaload, 1) := by decide +kernel
theorem dX6_canWrite_25 : decode cX6_canWrite 25 = .ok (.aload_n 0, 1) := by decide +kernel
theorem dX6_canWrite_26 : decode cX6_canWrite 26 = .ok (.getfield 7, 3) := by decide +kernel
theorem dX6_canWrite_29 : decode cX6_canWrite 29 = .ok (.iconst 3, 1) := by decide +kernel
theorem dX6_canWrite_30 : decode cX6_canWrite 30 = .ok (.iaload, 1) := by decide +kernel
theorem dX6_canWrite_31 : decode cX6_canWrite 31 = .ok (.if_icmp .ne 7, 3) := by decide +kernel
theorem dX6_canWrite_34 : decode cX6_canWrite 34 = .ok (.iconst 1, 1) := by decide +kernel
theorem dX6_canWrite_35 : decode cX6_canWrite 35 = .ok (.goto 4, 3) := by decide +kernel
theorem dX6_canWrite_38 : decode cX6_canWrite 38 = .ok (.iconst 0, 1) := by decide +kernel
theorem dX6_canWrite_39 : decode cX6_canWrite 39 = .ok (.ireturn, 1) := by decide +kernel
theorem dX6_writes_0 : decode cX6_writes 0 = .ok (.aload_n 0, 1) := by decide +kernel
theorem dX6_writes_1 : decode cX6_writes 1 = .ok (.getfield 7, 3) := by decide +kernel
theorem dX6_writes_4 : decode cX6_writes 4 = .ok (.iconst 3, 1) := by decide +kernel
theorem dX6_writes_5 : decode cX6_writes 5 = .ok (.iaload, 1) := by decide +kernel
theorem dX6_writes_6 : decode cX6_writes 6 = .ok (.istore_n 3, 1) := by decide +kernel
theorem dX6_writes_7 : decode cX6_writes 7 = .ok (.aload_n 0, 1) := by decide +kernel
theorem dX6_writes_8 : decode cX6_writes 8 = .ok (.getfield 7, 3) := by decide +kernel
theorem dX6_writes_11 : decode cX6_writes 11 = .ok (.bipush 42, 2) := by decide +kernel
theorem dX6_writes_13 : decode cX6_writes 13 = .ok (.iconst 3, 1) := by decide +kernel
theorem dX6_writes_14 : decode cX6_writes 14 = .ok (.iload_n 3, 1) := by decide +kernel
theorem dX6_writes_15 : decode cX6_writes 15 = .ok (.imul, 1) := by decide +kernel
theorem dX6_writes_16 : decode cX6_writes 16 = .ok (.iadd, 1) := by decide +kernel
theorem dX6_writes_17 : decode cX6_writes 17 = .ok (.iload_n 2, 1) := by decide +kernel
theorem dX6_writes_18 : decode cX6_writes 18 = .ok (.iastore, 1) := by decide +kernel
theorem dX6_writes_19 : decode cX6_writes 19 = .ok (.aload_n 0, 1) := by decide +kernel
theorem dX6_writes_20 : decode cX6_writes 20 = .ok (.getfield 7, 3) := by decide +kernel
theorem dX6_writes_23 : decode cX6_writes 23 = .ok (.bipush 42, 2) := by decide +kernel
theorem dX6_writes_25 : decode cX6_writes 25 = .ok (.iconst 3, 1) := by decide +kernel
theorem dX6_writes_26 : decode cX6_writes 26 = .ok (.iload_n 3, 1) := by decide +kernel
theorem dX6_writes_27 : decode cX6_writes 27 = .ok (.imul, 1) := by decide +kernel
theorem dX6_writes_28 : decode cX6_writes 28 = .ok (.iadd, 1) := by decide +kernel
theorem dX6_writes_29 : decode cX6_writes 29 = .ok (.iconst 1, 1) := by decide +kernel
theorem dX6_writes_30 : decode cX6_writes 30 = .ok (.iadd, 1) := by decide +kernel
theorem dX6_writes_31 : decode cX6_writes 31 = .ok (.aload_n 0, 1) := by decide +kernel
theorem dX6_writes_32 : decode cX6_writes 32 = .ok (.getfield 7, 3) := by decide +kernel
theorem dX6_writes_35 : decode cX6_writes 35 = .ok (.iconst 2, 1) := by decide +kernel
theorem dX6_writes_36 : decode cX6_writes 36 = .ok (.iaload, 1) := by decide +kernel
theorem dX6_writes_37 : decode cX6_writes 37 = .ok (.iastore, 1) := by decide +kernel
theorem dX6_writes_38 : decode cX6_writes 38 = .ok (.aload_n 0, 1) := by decide +kernel
theorem dX6_writes_39 : decode cX6_writes 39 = .ok (.getfield 7, 3) := by decide +kernel
theorem dX6_writes_42 : decode cX6_writes 42 = .ok (.bipush 42, 2) := by decide +kernel
theorem dX6_writes_44 : decode cX6_writes 44 = .ok (.iconst 3, 1) := by decide +kernel
theorem dX6_writes_45 : decode cX6_writes 45 = .ok (.iload_n 3, 1) := by decide +kernel
theorem dX6_writes_46 : decode cX6_writes 46 = .ok (.imul, 1) := by decide +kernel
theorem dX6_writes_47 : decode cX6_writes 47 = .ok (.iadd, 1) := by decide +kernel
theorem dX6_writes_48 : decode cX6_writes 48 = .ok (.iconst 2, 1) := by decide +kernel
theorem dX6_writes_49 : decode cX6_writes 49 = .ok (.iadd, 1) := by decide +kernel
theorem dX6_writes_50 : decode cX6_writes 50 = .ok (.iload_n 1, 1) := by decide +kernel
theorem dX6_writes_51 : decode cX6_writes 51 = .ok (.iastore, 1) := by decide +kernel
theorem dX6_writes_52 : decode cX6_writes 52 = .ok (.aload_n 0, 1) := by decide +kernel
theorem dX6_writes_53 : decode cX6_writes 53 = .ok (.getfield 7, 3) := by decide +kernel
theorem dX6_writes_56 : decode cX6_writes 56 = .ok (.iconst 3, 1) := by decide +kernel
theorem dX6_writes_57 : decode cX6_writes 57 = .ok (.dup2, 1) := by decide +kernel
theorem dX6_writes_58 : decode cX6_writes 58 = .ok (.iaload, 1) := by decide +kernel
theorem dX6_writes_59 : decode cX6_writes 59 = .ok (.iconst 1, 1) := by decide +kernel
theorem dX6_writes_60 : decode cX6_writes 60 = .ok (.iadd, 1) := by decide +kernel
theorem dX6_writes_61 : decode cX6_writes 61 = .ok (.iastore, 1) := by decide +kernel
theorem dX6_writes_62 : decode cX6_writes 62 = .ok (.aload_n 0, 1) := by decide +kernel
theorem dX6_writes_63 : decode cX6_writes 63 = .ok (.getfield 7, 3) := by decide +kernel
theorem dX6_writes_66 : decode cX6_writes 66 = .ok (.bipush 20, 2) := by decide +kernel
theorem dX6_writes_68 : decode cX6_writes 68 = .ok (.iload_n 1, 1) := by decide +kernel
theorem dX6_writes_69 : decode cX6_writes 69 = .ok (.iadd, 1) := by decide +kernel
theorem dX6_writes_70 : decode cX6_writes 70 = .ok (.dup2, 1) := by decide +kernel
theorem dX6_writes_71 : decode cX6_writes 71 = .ok (.iaload, 1) := by decide +kernel
theorem dX6_writes_72 : decode cX6_writes 72 = .ok (.iconst 1, 1) := by decide +kernel
theorem dX6_writes_73 : decode cX6_writes 73 = .ok (.iadd, 1) := by decide +kernel
theorem dX6_writes_74 : decode cX6_writes 74 = .ok (.iastore, 1) := by decide +kernel
theorem dX6_writes_75 : decode cX6_writes 75 = .ok (.iload_n 3, 1) := by decide +kernel
theorem dX6_writes_76 : decode cX6_writes 76 = .ok (.ireturn, 1) := by decide +kernel
set_option maxRecDepth 20000 in
theorem ggX6_change_X6_isVillager : GoodIn wsX6_change wsX6_isVillager := goodIn_r _ [6, 1, 76, 77, 78, 79, 80, 81, 82, 83, 84] (by decide +kernel) (by decide +kernel)
set_option maxRecDepth 20000 in
theorem gX6_change_X6_isVillager : GoodIn wsX6_change (wsV RX6 55 RX6 yX6_isVillager wsX6_isVillager) := goodIn_app (goodIn_of _ (by decide +kernel)) ggX6_change_X6_isVillager
set_option maxRecDepth 20000 in
theorem ggX6_change_X6_isSeat : GoodIn wsX6_change wsX6_isSeat := goodIn_r _ [10, 1, 76, 77, 78, 79, 80, 81, 82, 83, 84] (by decide +kernel) (by decide +kernel)
set_option maxRecDepth 20000 in
theorem gX6_change_X6_isSeat : GoodIn wsX6_change (wsV RX6 78 RX6 yX6_isSeat wsX6_isSeat) := goodIn_app (goodIn_of _ (by decide +kernel)) ggX6_change_X6_isSeat
set_option maxRecDepth 20000 in
theorem ggX6_change_X6_candidates : GoodIn wsX6_change wsX6_candidates := goodIn_r _ [14, 1, 15, 16, 17, 5, 18, 76, 77, 78, 79, 80, 81, 82, 83, 84] (by decide +kernel) (by decide +kernel)
set_option maxRecDepth 20000 in
theorem gX6_change_X6_candidates : GoodIn wsX6_change (wsV RX6 81 RX6 yX6_candidates wsX6_candidates) := goodIn_app (goodIn_of _ (by decide +kernel)) ggX6_change_X6_candidates
set_option maxRecDepth 20000 in
theorem ggX6_change_X6_goesOn : GoodIn wsX6_change wsX6_goesOn := goodIn_r _ [22, 1, 76, 77, 78, 79, 80, 81, 82, 83, 84] (by decide +kernel) (by decide +kernel)
set_option maxRecDepth 20000 in
theorem gX6_change_X6_goesOn : GoodIn wsX6_change (wsV RX6 30 RX6 yX6_goesOn wsX6_goesOn) := goodIn_app (goodIn_of _ (by decide +kernel)) ggX6_change_X6_goesOn
set_option maxRecDepth 20000 in
theorem ggX6_change_X6_canWrite : GoodIn wsX6_change wsX6_canWrite := goodIn_r _ [26, 1, 27, 28, 29, 5, 30, 15, 16, 17, 18, 31, 32, 33, 34, 19, 20, 21, 22, 35, 36, 37, 38, 76, 77, 78, 79, 80, 81, 82, 83, 84] (by decide +kernel) (by decide +kernel)
set_option maxRecDepth 20000 in
theorem gX6_change_X6_canWrite : GoodIn wsX6_change (wsV RX6 84 RX6 yX6_canWrite wsX6_canWrite) := goodIn_app (goodIn_of _ (by decide +kernel)) ggX6_change_X6_canWrite
set_option maxRecDepth 20000 in
theorem ggX6_change_X6_acts : GoodIn wsX6_change wsX6_acts := goodIn_r _ [42, 43, 44, 45, 1, 76, 77, 78, 79, 80, 81, 82, 83, 84] (by decide +kernel) (by decide +kernel)
set_option maxRecDepth 20000 in
theorem gX6_change_X6_acts : GoodIn wsX6_change (wsV RX6 52 RX6 yX6_acts wsX6_acts) := goodIn_app (goodIn_of _ (by decide +kernel)) ggX6_change_X6_acts
set_option maxRecDepth 20000 in
theorem ggX6_change_X6_drawn : GoodIn wsX6_change wsX6_drawn := goodIn_r _ [48, 49, 50, 51] (by decide +kernel) (by decide +kernel)
set_option maxRecDepth 20000 in
theorem gX6_change_X6_drawn : GoodIn wsX6_change (va_wsS RX6 87 yX6_drawn wsX6_drawn) := goodIn_app (goodIn_of _ (by decide +kernel)) ggX6_change_X6_drawn
set_option maxRecDepth 20000 in
theorem ggX6_change_X6_candidate : GoodIn wsX6_change wsX6_candidate := goodIn_r _ [55, 1, 15, 16, 17, 5, 18, 76, 77, 78, 79, 80, 81, 82, 83, 84] (by decide +kernel) (by decide +kernel)
set_option maxRecDepth 20000 in
theorem gX6_change_X6_candidate : GoodIn wsX6_change (wsV RX6 91 RX6 yX6_candidate wsX6_candidate) := goodIn_app (goodIn_of _ (by decide +kernel)) ggX6_change_X6_candidate
set_option maxRecDepth 20000 in
theorem ggX6_change_X6_writes : GoodIn wsX6_change wsX6_writes := goodIn_r _ [59, 1, 76, 77, 78, 79, 80, 81, 82, 83, 84] (by decide +kernel) (by decide +kernel)
set_option maxRecDepth 20000 in
theorem gX6_change_X6_writes : GoodIn wsX6_change (wsV RX6 94 RX6 yX6_writes wsX6_writes) := goodIn_app (goodIn_of _ (by decide +kernel)) ggX6_change_X6_writes
set_option maxRecDepth 20000 in
theorem ggX6_change_X6_agrees : GoodIn wsX6_change wsX6_agrees := goodIn_r _ [63, 1, 64, 65, 66, 5, 67, 68, 69, 70, 71, 31, 32, 33, 34, 19, 20, 21, 22, 72, 73, 74, 75, 76, 77, 78, 79, 80, 81, 82, 83, 84] (by decide +kernel) (by decide +kernel)
set_option maxRecDepth 20000 in
theorem gX6_change_X6_agrees : GoodIn wsX6_change (wsV RX6 97 RX6 yX6_agrees wsX6_agrees) := goodIn_app (goodIn_of _ (by decide +kernel)) ggX6_change_X6_agrees
theorem dX6_change_0 : decode cX6_change 0 = .ok (.aload_n 0, 1) := by decide +kernel
theorem dX6_change_1 : decode cX6_change 1 = .ok (.iload_n 1, 1) := by decide +kernel
theorem dX6_change_2 : decode cX6_change 2 = .ok (.invokevirtual 55, 3) := by decide +kernel
theorem dX6_change_5 : decode cX6_change 5 = .ok (.ifCond .eq 11, 3) := by decide +kernel
theorem dX6_change_8 : decode cX6_change 8 = .ok (.aload_n 0, 1) := by decide +kernel
theorem dX6_change_9 : decode cX6_change 9 = .ok (.iload_n 2, 1) := by decide +kernel
theorem dX6_change_10 : decode cX6_change 10 = .ok (.invokevirtual 78, 3) := by decide +kernel
theorem dX6_change_13 : decode cX6_change 13 = .ok (.ifCond .ne 5, 3) := by decide +kernel
theorem dX6_change_16 : decode cX6_change 16 = .ok (.iconst (-1), 1) := by decide +kernel
theorem dX6_change_17 : decode cX6_change 17 = .ok (.ireturn, 1) := by decide +kernel
theorem dX6_change_18 : decode cX6_change 18 = .ok (.aload_n 0, 1) := by decide +kernel
theorem dX6_change_19 : decode cX6_change 19 = .ok (.invokevirtual 81, 3) := by decide +kernel
theorem dX6_change_22 : decode cX6_change 22 = .ok (.istore_n 3, 1) := by decide +kernel
theorem dX6_change_23 : decode cX6_change 23 = .ok (.aload_n 0, 1) := by decide +kernel
theorem dX6_change_24 : decode cX6_change 24 = .ok (.invokevirtual 30, 3) := by decide +kernel
theorem dX6_change_27 : decode cX6_change 27 = .ok (.ifCond .ne 15, 3) := by decide +kernel
theorem dX6_change_30 : decode cX6_change 30 = .ok (.aload_n 0, 1) := by decide +kernel
theorem dX6_change_31 : decode cX6_change 31 = .ok (.iload_n 1, 1) := by decide +kernel
theorem dX6_change_32 : decode cX6_change 32 = .ok (.invokevirtual 84, 3) := by decide +kernel
theorem dX6_change_35 : decode cX6_change 35 = .ok (.ifCond .eq 7, 3) := by decide +kernel
theorem dX6_change_38 : decode cX6_change 38 = .ok (.iload_n 3, 1) := by decide +kernel
theorem dX6_change_39 : decode cX6_change 39 = .ok (.ifCond .ne 6, 3) := by decide +kernel
theorem dX6_change_42 : decode cX6_change 42 = .ok (.bipush (-2), 2) := by decide +kernel
theorem dX6_change_44 : decode cX6_change 44 = .ok (.ireturn, 1) := by decide +kernel
theorem dX6_change_45 : decode cX6_change 45 = .ok (.aload_n 0, 1) := by decide +kernel
theorem dX6_change_46 : decode cX6_change 46 = .ok (.getfield 7, 3) := by decide +kernel
theorem dX6_change_49 : decode cX6_change 49 = .ok (.iconst 3, 1) := by decide +kernel
theorem dX6_change_50 : decode cX6_change 50 = .ok (.iaload, 1) := by decide +kernel
theorem dX6_change_51 : decode cX6_change 51 = .ok (.bipush 60, 2) := by decide +kernel
theorem dX6_change_53 : decode cX6_change 53 = .ok (.if_icmp .ne 6, 3) := by decide +kernel
theorem dX6_change_56 : decode cX6_change 56 = .ok (.bipush (-3), 2) := by decide +kernel
theorem dX6_change_58 : decode cX6_change 58 = .ok (.ireturn, 1) := by decide +kernel
theorem dX6_change_59 : decode cX6_change 59 = .ok (.aload_n 0, 1) := by decide +kernel
theorem dX6_change_60 : decode cX6_change 60 = .ok (.invokevirtual 52, 3) := by decide +kernel
theorem dX6_change_63 : decode cX6_change 63 = .ok (.sipush 222, 3) := by decide +kernel
theorem dX6_change_66 : decode cX6_change 66 = .ok (.iconst 5, 1) := by decide +kernel
theorem dX6_change_67 : decode cX6_change 67 = .ok (.aload_n 0, 1) := by decide +kernel
theorem dX6_change_68 : decode cX6_change 68 = .ok (.getfield 7, 3) := by decide +kernel
theorem dX6_change_71 : decode cX6_change 71 = .ok (.bipush 7, 2) := by decide +kernel
theorem dX6_change_73 : decode cX6_change 73 = .ok (.iaload, 1) := by decide +kernel
theorem dX6_change_74 : decode cX6_change 74 = .ok (.imul, 1) := by decide +kernel
theorem dX6_change_75 : decode cX6_change 75 = .ok (.iadd, 1) := by decide +kernel
theorem dX6_change_76 : decode cX6_change 76 = .ok (.istore 4, 2) := by decide +kernel
theorem dX6_change_78 : decode cX6_change 78 = .ok (.aload_n 0, 1) := by decide +kernel
theorem dX6_change_79 : decode cX6_change 79 = .ok (.getfield 7, 3) := by decide +kernel
theorem dX6_change_82 : decode cX6_change 82 = .ok (.iload 4, 2) := by decide +kernel
theorem dX6_change_84 : decode cX6_change 84 = .ok (.aload_n 0, 1) := by decide +kernel
theorem dX6_change_85 : decode cX6_change 85 = .ok (.getfield 7, 3) := by decide +kernel
theorem dX6_change_88 : decode cX6_change 88 = .ok (.bipush 6, 2) := by decide +kernel
theorem dX6_change_90 : decode cX6_change 90 = .ok (.iaload, 1) := by decide +kernel
theorem dX6_change_91 : decode cX6_change 91 = .ok (.iastore, 1) := by decide +kernel
theorem dX6_change_92 : decode cX6_change 92 = .ok (.aload_n 0, 1) := by decide +kernel
theorem dX6_change_93 : decode cX6_change 93 = .ok (.getfield 7, 3) := by decide +kernel
theorem dX6_change_96 : decode cX6_change 96 = .ok (.iload 4, 2) := by decide +kernel
theorem dX6_change_98 : decode cX6_change 98 = .ok (.iconst 1, 1) := by decide +kernel
theorem dX6_change_99 : decode cX6_change 99 = .ok (.iadd, 1) := by decide +kernel
theorem dX6_change_100 : decode cX6_change 100 = .ok (.iload_n 3, 1) := by decide +kernel
theorem dX6_change_101 : decode cX6_change 101 = .ok (.iastore, 1) := by decide +kernel
theorem dX6_change_102 : decode cX6_change 102 = .ok (.aload_n 0, 1) := by decide +kernel
theorem dX6_change_103 : decode cX6_change 103 = .ok (.getfield 7, 3) := by decide +kernel
theorem dX6_change_106 : decode cX6_change 106 = .ok (.bipush 6, 2) := by decide +kernel
theorem dX6_change_108 : decode cX6_change 108 = .ok (.aload_n 0, 1) := by decide +kernel
theorem dX6_change_109 : decode cX6_change 109 = .ok (.getfield 7, 3) := by decide +kernel
theorem dX6_change_112 : decode cX6_change 112 = .ok (.bipush 6, 2) := by decide +kernel
theorem dX6_change_114 : decode cX6_change 114 = .ok (.iaload, 1) := by decide +kernel
theorem dX6_change_115 : decode cX6_change 115 = .ok (.invokestatic 87, 3) := by decide +kernel
theorem dX6_change_118 : decode cX6_change 118 = .ok (.iastore, 1) := by decide +kernel
theorem dX6_change_119 : decode cX6_change 119 = .ok (.aload_n 0, 1) := by decide +kernel
theorem dX6_change_120 : decode cX6_change 120 = .ok (.aload_n 0, 1) := by decide +kernel
theorem dX6_change_121 : decode cX6_change 121 = .ok (.getfield 7, 3) := by decide +kernel
theorem dX6_change_124 : decode cX6_change 124 = .ok (.bipush 6, 2) := by decide +kernel
theorem dX6_change_126 : decode cX6_change 126 = .ok (.iaload, 1) := by decide +kernel
theorem dX6_change_127 : decode cX6_change 127 = .ok (.iload_n 3, 1) := by decide +kernel
theorem dX6_change_128 : decode cX6_change 128 = .ok (.irem, 1) := by decide +kernel
theorem dX6_change_129 : decode cX6_change 129 = .ok (.invokevirtual 91, 3) := by decide +kernel
theorem dX6_change_132 : decode cX6_change 132 = .ok (.istore 5, 2) := by decide +kernel
theorem dX6_change_134 : decode cX6_change 134 = .ok (.aload_n 0, 1) := by decide +kernel
theorem dX6_change_135 : decode cX6_change 135 = .ok (.getfield 7, 3) := by decide +kernel
theorem dX6_change_138 : decode cX6_change 138 = .ok (.iload 4, 2) := by decide +kernel
theorem dX6_change_140 : decode cX6_change 140 = .ok (.iconst 2, 1) := by decide +kernel
theorem dX6_change_141 : decode cX6_change 141 = .ok (.iadd, 1) := by decide +kernel
theorem dX6_change_142 : decode cX6_change 142 = .ok (.iload 5, 2) := by decide +kernel
theorem dX6_change_144 : decode cX6_change 144 = .ok (.iastore, 1) := by decide +kernel
theorem dX6_change_145 : decode cX6_change 145 = .ok (.aload_n 0, 1) := by decide +kernel
theorem dX6_change_146 : decode cX6_change 146 = .ok (.getfield 7, 3) := by decide +kernel
theorem dX6_change_149 : decode cX6_change 149 = .ok (.iload 4, 2) := by decide +kernel
theorem dX6_change_151 : decode cX6_change 151 = .ok (.iconst 3, 1) := by decide +kernel
theorem dX6_change_152 : decode cX6_change 152 = .ok (.iadd, 1) := by decide +kernel
theorem dX6_change_153 : decode cX6_change 153 = .ok (.iload 5, 2) := by decide +kernel
theorem dX6_change_155 : decode cX6_change 155 = .ok (.iastore, 1) := by decide +kernel
theorem dX6_change_156 : decode cX6_change 156 = .ok (.aload_n 0, 1) := by decide +kernel
theorem dX6_change_157 : decode cX6_change 157 = .ok (.getfield 7, 3) := by decide +kernel
theorem dX6_change_160 : decode cX6_change 160 = .ok (.iload 4, 2) := by decide +kernel
theorem dX6_change_162 : decode cX6_change 162 = .ok (.iconst 4, 1) := by decide +kernel
theorem dX6_change_163 : decode cX6_change 163 = .ok (.iadd, 1) := by decide +kernel
theorem dX6_change_164 : decode cX6_change 164 = .ok (.iload_n 2, 1) := by decide +kernel
theorem dX6_change_165 : decode cX6_change 165 = .ok (.iastore, 1) := by decide +kernel
theorem dX6_change_166 : decode cX6_change 166 = .ok (.aload_n 0, 1) := by decide +kernel
theorem dX6_change_167 : decode cX6_change 167 = .ok (.getfield 7, 3) := by decide +kernel
theorem dX6_change_170 : decode cX6_change 170 = .ok (.bipush 7, 2) := by decide +kernel
theorem dX6_change_172 : decode cX6_change 172 = .ok (.dup2, 1) := by decide +kernel
theorem dX6_change_173 : decode cX6_change 173 = .ok (.iaload, 1) := by decide +kernel
theorem dX6_change_174 : decode cX6_change 174 = .ok (.iconst 1, 1) := by decide +kernel
theorem dX6_change_175 : decode cX6_change 175 = .ok (.iadd, 1) := by decide +kernel
theorem dX6_change_176 : decode cX6_change 176 = .ok (.iastore, 1) := by decide +kernel
theorem dX6_change_177 : decode cX6_change 177 = .ok (.iconst 0, 1) := by decide +kernel
theorem dX6_change_178 : decode cX6_change 178 = .ok (.istore 6, 2) := by decide +kernel
theorem dX6_change_180 : decode cX6_change 180 = .ok (.iload 6, 2) := by decide +kernel
theorem dX6_change_182 : decode cX6_change 182 = .ok (.aload_n 0, 1) := by decide +kernel
theorem dX6_change_183 : decode cX6_change 183 = .ok (.getfield 7, 3) := by decide +kernel
theorem dX6_change_186 : decode cX6_change 186 = .ok (.iconst 1, 1) := by decide +kernel
theorem dX6_change_187 : decode cX6_change 187 = .ok (.iaload, 1) := by decide +kernel
theorem dX6_change_188 : decode cX6_change 188 = .ok (.if_icmp .ge 40, 3) := by decide +kernel
theorem dX6_change_191 : decode cX6_change 191 = .ok (.aload_n 0, 1) := by decide +kernel
theorem dX6_change_192 : decode cX6_change 192 = .ok (.getfield 7, 3) := by decide +kernel
theorem dX6_change_195 : decode cX6_change 195 = .ok (.bipush 37, 2) := by decide +kernel
theorem dX6_change_197 : decode cX6_change 197 = .ok (.iload 6, 2) := by decide +kernel
theorem dX6_change_199 : decode cX6_change 199 = .ok (.iadd, 1) := by decide +kernel
theorem dX6_change_200 : decode cX6_change 200 = .ok (.iload 6, 2) := by decide +kernel
theorem dX6_change_202 : decode cX6_change 202 = .ok (.iload_n 2, 1) := by decide +kernel
theorem dX6_change_203 : decode cX6_change 203 = .ok (.if_icmp .ne 8, 3) := by decide +kernel
theorem dX6_change_206 : decode cX6_change 206 = .ok (.iload 5, 2) := by decide +kernel
theorem dX6_change_208 : decode cX6_change 208 = .ok (.goto 13, 3) := by decide +kernel
theorem dX6_change_211 : decode cX6_change 211 = .ok (.aload_n 0, 1) := by decide +kernel
theorem dX6_change_212 : decode cX6_change 212 = .ok (.getfield 7, 3) := by decide +kernel
theorem dX6_change_215 : decode cX6_change 215 = .ok (.bipush 32, 2) := by decide +kernel
theorem dX6_change_217 : decode cX6_change 217 = .ok (.iload 6, 2) := by decide +kernel
theorem dX6_change_219 : decode cX6_change 219 = .ok (.iadd, 1) := by decide +kernel
theorem dX6_change_220 : decode cX6_change 220 = .ok (.iaload, 1) := by decide +kernel
theorem dX6_change_221 : decode cX6_change 221 = .ok (.iastore, 1) := by decide +kernel
theorem dX6_change_222 : decode cX6_change 222 = .ok (.iinc 6 1, 3) := by decide +kernel
theorem dX6_change_225 : decode cX6_change 225 = .ok (.goto (-45), 3) := by decide +kernel
theorem dX6_change_228 : decode cX6_change 228 = .ok (.aload_n 0, 1) := by decide +kernel
theorem dX6_change_229 : decode cX6_change 229 = .ok (.getfield 7, 3) := by decide +kernel
theorem dX6_change_232 : decode cX6_change 232 = .ok (.iconst 5, 1) := by decide +kernel
theorem dX6_change_233 : decode cX6_change 233 = .ok (.aload_n 0, 1) := by decide +kernel
theorem dX6_change_234 : decode cX6_change 234 = .ok (.iload_n 1, 1) := by decide +kernel
theorem dX6_change_235 : decode cX6_change 235 = .ok (.bipush (-9), 2) := by decide +kernel
theorem dX6_change_237 : decode cX6_change 237 = .ok (.invokevirtual 94, 3) := by decide +kernel
theorem dX6_change_240 : decode cX6_change 240 = .ok (.iastore, 1) := by decide +kernel
theorem dX6_change_241 : decode cX6_change 241 = .ok (.aload_n 0, 1) := by decide +kernel
theorem dX6_change_242 : decode cX6_change 242 = .ok (.invokevirtual 97, 3) := by decide +kernel
theorem dX6_change_245 : decode cX6_change 245 = .ok (.ifCond .ge 8, 3) := by decide +kernel
theorem dX6_change_248 : decode cX6_change 248 = .ok (.bipush (-9), 2) := by decide +kernel
theorem dX6_change_250 : decode cX6_change 250 = .ok (.goto 5, 3) := by decide +kernel
theorem dX6_change_253 : decode cX6_change 253 = .ok (.iload 5, 2) := by decide +kernel
theorem dX6_change_255 : decode cX6_change 255 = .ok (.ireturn, 1) := by decide +kernel
set_option maxRecDepth 20000 in
theorem ggX6_forge_X6_isVillager : GoodIn wsX6_forge wsX6_isVillager := goodIn_r _ [6, 1, 46, 47, 48, 49, 50, 51, 52, 53, 54] (by decide +kernel) (by decide +kernel)
set_option maxRecDepth 20000 in
theorem gX6_forge_X6_isVillager : GoodIn wsX6_forge (wsV RX6 55 RX6 yX6_isVillager wsX6_isVillager) := goodIn_app (goodIn_of _ (by decide +kernel)) ggX6_forge_X6_isVillager
set_option maxRecDepth 20000 in
theorem ggX6_forge_X6_goesOn : GoodIn wsX6_forge wsX6_goesOn := goodIn_r _ [10, 1, 46, 47, 48, 49, 50, 51, 52, 53, 54] (by decide +kernel) (by decide +kernel)
set_option maxRecDepth 20000 in
theorem gX6_forge_X6_goesOn : GoodIn wsX6_forge (wsV RX6 30 RX6 yX6_goesOn wsX6_goesOn) := goodIn_app (goodIn_of _ (by decide +kernel)) ggX6_forge_X6_goesOn
set_option maxRecDepth 20000 in
theorem ggX6_forge_X6_isElder : GoodIn wsX6_forge wsX6_isElder := goodIn_r _ [14, 15, 16, 17, 5, 18, 1, 19, 20, 21, 22, 7, 8, 9, 10, 46, 47, 48, 49, 50, 51, 52, 53, 54] (by decide +kernel) (by decide +kernel)
set_option maxRecDepth 20000 in
theorem gX6_forge_X6_isElder : GoodIn wsX6_forge (wsV RX6 72 RX6 yX6_isElder wsX6_isElder) := goodIn_app (goodIn_of _ (by decide +kernel)) ggX6_forge_X6_isElder
set_option maxRecDepth 20000 in
theorem ggX6_forge_X6_acts : GoodIn wsX6_forge wsX6_acts := goodIn_r _ [26, 27, 28, 29, 1, 46, 47, 48, 49, 50, 51, 52, 53, 54] (by decide +kernel) (by decide +kernel)
set_option maxRecDepth 20000 in
theorem gX6_forge_X6_acts : GoodIn wsX6_forge (wsV RX6 52 RX6 yX6_acts wsX6_acts) := goodIn_app (goodIn_of _ (by decide +kernel)) ggX6_forge_X6_acts
set_option maxRecDepth 20000 in
theorem ggX6_forge_X6_agrees : GoodIn wsX6_forge wsX6_agrees := goodIn_r _ [33, 1, 34, 35, 36, 5, 37, 38, 39, 40, 41, 19, 20, 21, 22, 7, 8, 9, 10, 42, 43, 44, 45, 46, 47, 48, 49, 50, 51, 52, 53, 54] (by decide +kernel) (by decide +kernel)
set_option maxRecDepth 20000 in
theorem gX6_forge_X6_agrees : GoodIn wsX6_forge (wsV RX6 97 RX6 yX6_agrees wsX6_agrees) := goodIn_app (goodIn_of _ (by decide +kernel)) ggX6_forge_X6_agrees
theorem dX6_forge_0 : decode cX6_forge 0 = .ok (.aload_n 0, 1) := by decide +kernel
theorem dX6_forge_1 : decode cX6_forge 1 = .ok (.iload_n 1, 1) := by decide +kernel
theorem dX6_forge_2 : decode cX6_forge 2 = .ok (.invokevirtual 55, 3) := by decide +kernel
theorem dX6_forge_5 : decode cX6_forge 5 = .ok (.ifCond .ne 5, 3) := by decide +kernel
theorem dX6_forge_8 : decode cX6_forge 8 = .ok (.iconst (-1), 1) := by decide +kernel
theorem dX6_forge_9 : decode cX6_forge 9 = .ok (.ireturn, 1) := by decide +kernel
theorem dX6_forge_10 : decode cX6_forge 10 = .ok (.aload_n 0, 1) := by decide +kernel
theorem dX6_forge_11 : decode cX6_forge 11 = .ok (.invokevirtual 30, 3) := by decide +kernel
theorem dX6_forge_14 : decode cX6_forge 14 = .ok (.ifCond .eq 11, 3) := by decide +kernel
theorem dX6_forge_17 : decode cX6_forge 17 = .ok (.aload_n 0, 1) := by decide +kernel
theorem dX6_forge_18 : decode cX6_forge 18 = .ok (.iload_n 1, 1) := by decide +kernel
theorem dX6_forge_19 : decode cX6_forge 19 = .ok (.invokevirtual 72, 3) := by decide +kernel
theorem dX6_forge_22 : decode cX6_forge 22 = .ok (.ifCond .eq 6, 3) := by decide +kernel
theorem dX6_forge_25 : decode cX6_forge 25 = .ok (.bipush (-2), 2) := by decide +kernel
theorem dX6_forge_27 : decode cX6_forge 27 = .ok (.ireturn, 1) := by decide +kernel
theorem dX6_forge_28 : decode cX6_forge 28 = .ok (.aload_n 0, 1) := by decide +kernel
theorem dX6_forge_29 : decode cX6_forge 29 = .ok (.invokevirtual 52, 3) := by decide +kernel
theorem dX6_forge_32 : decode cX6_forge 32 = .ok (.sipush 222, 3) := by decide +kernel
theorem dX6_forge_35 : decode cX6_forge 35 = .ok (.iconst 5, 1) := by decide +kernel
theorem dX6_forge_36 : decode cX6_forge 36 = .ok (.aload_n 0, 1) := by decide +kernel
theorem dX6_forge_37 : decode cX6_forge 37 = .ok (.getfield 7, 3) := by decide +kernel
theorem dX6_forge_40 : decode cX6_forge 40 = .ok (.bipush 7, 2) := by decide +kernel
theorem dX6_forge_42 : decode cX6_forge 42 = .ok (.iaload, 1) := by decide +kernel
theorem dX6_forge_43 : decode cX6_forge 43 = .ok (.iconst 1, 1) := by decide +kernel
theorem dX6_forge_44 : decode cX6_forge 44 = .ok (.isub, 1) := by decide +kernel
theorem dX6_forge_45 : decode cX6_forge 45 = .ok (.imul, 1) := by decide +kernel
theorem dX6_forge_46 : decode cX6_forge 46 = .ok (.iadd, 1) := by decide +kernel
theorem dX6_forge_47 : decode cX6_forge 47 = .ok (.istore_n 2, 1) := by decide +kernel
theorem dX6_forge_48 : decode cX6_forge 48 = .ok (.aload_n 0, 1) := by decide +kernel
theorem dX6_forge_49 : decode cX6_forge 49 = .ok (.getfield 7, 3) := by decide +kernel
theorem dX6_forge_52 : decode cX6_forge 52 = .ok (.iload_n 2, 1) := by decide +kernel
theorem dX6_forge_53 : decode cX6_forge 53 = .ok (.iconst 2, 1) := by decide +kernel
theorem dX6_forge_54 : decode cX6_forge 54 = .ok (.iadd, 1) := by decide +kernel
theorem dX6_forge_55 : decode cX6_forge 55 = .ok (.iaload, 1) := by decide +kernel
theorem dX6_forge_56 : decode cX6_forge 56 = .ok (.istore_n 3, 1) := by decide +kernel
theorem dX6_forge_57 : decode cX6_forge 57 = .ok (.aload_n 0, 1) := by decide +kernel
theorem dX6_forge_58 : decode cX6_forge 58 = .ok (.getfield 7, 3) := by decide +kernel
theorem dX6_forge_61 : decode cX6_forge 61 = .ok (.iload_n 2, 1) := by decide +kernel
theorem dX6_forge_62 : decode cX6_forge 62 = .ok (.iconst 2, 1) := by decide +kernel
theorem dX6_forge_63 : decode cX6_forge 63 = .ok (.iadd, 1) := by decide +kernel
theorem dX6_forge_64 : decode cX6_forge 64 = .ok (.iload_n 1, 1) := by decide +kernel
theorem dX6_forge_65 : decode cX6_forge 65 = .ok (.iastore, 1) := by decide +kernel
theorem dX6_forge_66 : decode cX6_forge 66 = .ok (.aload_n 0, 1) := by decide +kernel
theorem dX6_forge_67 : decode cX6_forge 67 = .ok (.getfield 7, 3) := by decide +kernel
theorem dX6_forge_70 : decode cX6_forge 70 = .ok (.bipush 37, 2) := by decide +kernel
theorem dX6_forge_72 : decode cX6_forge 72 = .ok (.aload_n 0, 1) := by decide +kernel
theorem dX6_forge_73 : decode cX6_forge 73 = .ok (.getfield 7, 3) := by decide +kernel
theorem dX6_forge_76 : decode cX6_forge 76 = .ok (.iload_n 2, 1) := by decide +kernel
theorem dX6_forge_77 : decode cX6_forge 77 = .ok (.iconst 4, 1) := by decide +kernel
theorem dX6_forge_78 : decode cX6_forge 78 = .ok (.iadd, 1) := by decide +kernel
theorem dX6_forge_79 : decode cX6_forge 79 = .ok (.iaload, 1) := by decide +kernel
theorem dX6_forge_80 : decode cX6_forge 80 = .ok (.iadd, 1) := by decide +kernel
theorem dX6_forge_81 : decode cX6_forge 81 = .ok (.iload_n 1, 1) := by decide +kernel
theorem dX6_forge_82 : decode cX6_forge 82 = .ok (.iastore, 1) := by decide +kernel
theorem dX6_forge_83 : decode cX6_forge 83 = .ok (.aload_n 0, 1) := by decide +kernel
theorem dX6_forge_84 : decode cX6_forge 84 = .ok (.invokevirtual 97, 3) := by decide +kernel
theorem dX6_forge_87 : decode cX6_forge 87 = .ok (.ifCond .ge 8, 3) := by decide +kernel
theorem dX6_forge_90 : decode cX6_forge 90 = .ok (.bipush (-9), 2) := by decide +kernel
theorem dX6_forge_92 : decode cX6_forge 92 = .ok (.goto 4, 3) := by decide +kernel
theorem dX6_forge_95 : decode cX6_forge 95 = .ok (.iload_n 3, 1) := by decide +kernel
theorem dX6_forge_96 : decode cX6_forge 96 = .ok (.ireturn, 1) := by decide +kernel
set_option maxRecDepth 20000 in
theorem ggX6_propose_X6_isVillager : GoodIn wsX6_propose wsX6_isVillager := goodIn_r _ [6, 1, 61, 62, 63, 64, 65, 66, 67, 68, 69] (by decide +kernel) (by decide +kernel)
set_option maxRecDepth 20000 in
theorem gX6_propose_X6_isVillager : GoodIn wsX6_propose (wsV RX6 55 RX6 yX6_isVillager wsX6_isVillager) := goodIn_app (goodIn_of _ (by decide +kernel)) ggX6_propose_X6_isVillager
set_option maxRecDepth 20000 in
theorem ggX6_propose_X6_in : GoodIn wsX6_propose wsX6_in := goodIn_r _ [9] (by decide +kernel) (by decide +kernel)
set_option maxRecDepth 20000 in
theorem gX6_propose_X6_in : GoodIn wsX6_propose (va_wsS RX6 58 yX6_in wsX6_in) := goodIn_app (goodIn_of _ (by decide +kernel)) ggX6_propose_X6_in
set_option maxRecDepth 20000 in
theorem ggX6_propose_X6_canWrite : GoodIn wsX6_propose wsX6_canWrite := goodIn_r _ [13, 1, 14, 15, 16, 5, 17, 18, 19, 20, 21, 22, 23, 24, 25, 26, 27, 28, 29, 30, 31, 32, 33, 61, 62, 63, 64, 65, 66, 67, 68, 69] (by decide +kernel) (by decide +kernel)
set_option maxRecDepth 20000 in
theorem gX6_propose_X6_canWrite : GoodIn wsX6_propose (wsV RX6 84 RX6 yX6_canWrite wsX6_canWrite) := goodIn_app (goodIn_of _ (by decide +kernel)) ggX6_propose_X6_canWrite
set_option maxRecDepth 20000 in
theorem ggX6_propose_X6_acts : GoodIn wsX6_propose wsX6_acts := goodIn_r _ [37, 38, 39, 40, 1, 61, 62, 63, 64, 65, 66, 67, 68, 69] (by decide +kernel) (by decide +kernel)
set_option maxRecDepth 20000 in
theorem gX6_propose_X6_acts : GoodIn wsX6_propose (wsV RX6 52 RX6 yX6_acts wsX6_acts) := goodIn_app (goodIn_of _ (by decide +kernel)) ggX6_propose_X6_acts
set_option maxRecDepth 20000 in
theorem ggX6_propose_X6_writes : GoodIn wsX6_propose wsX6_writes := goodIn_r _ [44, 1, 61, 62, 63, 64, 65, 66, 67, 68, 69] (by decide +kernel) (by decide +kernel)
set_option maxRecDepth 20000 in
theorem gX6_propose_X6_writes : GoodIn wsX6_propose (wsV RX6 94 RX6 yX6_writes wsX6_writes) := goodIn_app (goodIn_of _ (by decide +kernel)) ggX6_propose_X6_writes
set_option maxRecDepth 20000 in
theorem ggX6_propose_X6_agrees : GoodIn wsX6_propose wsX6_agrees := goodIn_r _ [48, 1, 49, 50, 51, 5, 52, 53, 54, 55, 56, 22, 23, 24, 25, 26, 27, 28, 29, 57, 58, 59, 60, 61, 62, 63, 64, 65, 66, 67, 68, 69] (by decide +kernel) (by decide +kernel)
set_option maxRecDepth 20000 in
theorem gX6_propose_X6_agrees : GoodIn wsX6_propose (wsV RX6 97 RX6 yX6_agrees wsX6_agrees) := goodIn_app (goodIn_of _ (by decide +kernel)) ggX6_propose_X6_agrees
theorem dX6_propose_0 : decode cX6_propose 0 = .ok (.aload_n 0, 1) := by decide +kernel
theorem dX6_propose_1 : decode cX6_propose 1 = .ok (.iload_n 1, 1) := by decide +kernel
theorem dX6_propose_2 : decode cX6_propose 2 = .ok (.invokevirtual 55, 3) := by decide +kernel
theorem dX6_propose_5 : decode cX6_propose 5 = .ok (.ifCond .eq 14, 3) := by decide +kernel
theorem dX6_propose_8 : decode cX6_propose 8 = .ok (.iload_n 2, 1) := by decide +kernel
theorem dX6_propose_9 : decode cX6_propose 9 = .ok (.iconst 0, 1) := by decide +kernel
theorem dX6_propose_10 : decode cX6_propose 10 = .ok (.sipush 999, 3) := by decide +kernel
theorem dX6_propose_13 : decode cX6_propose 13 = .ok (.invokestatic 58, 3) := by decide +kernel
theorem dX6_propose_16 : decode cX6_propose 16 = .ok (.ifCond .ne 5, 3) := by decide +kernel
theorem dX6_propose_19 : decode cX6_propose 19 = .ok (.iconst (-1), 1) := by decide +kernel
theorem dX6_propose_20 : decode cX6_propose 20 = .ok (.ireturn, 1) := by decide +kernel
theorem dX6_propose_21 : decode cX6_propose 21 = .ok (.aload_n 0, 1) := by decide +kernel
theorem dX6_propose_22 : decode cX6_propose 22 = .ok (.iload_n 1, 1) := by decide +kernel
theorem dX6_propose_23 : decode cX6_propose 23 = .ok (.invokevirtual 84, 3) := by decide +kernel
theorem dX6_propose_26 : decode cX6_propose 26 = .ok (.ifCond .ne 6, 3) := by decide +kernel
theorem dX6_propose_29 : decode cX6_propose 29 = .ok (.bipush (-2), 2) := by decide +kernel
theorem dX6_propose_31 : decode cX6_propose 31 = .ok (.ireturn, 1) := by decide +kernel
theorem dX6_propose_32 : decode cX6_propose 32 = .ok (.aload_n 0, 1) := by decide +kernel
theorem dX6_propose_33 : decode cX6_propose 33 = .ok (.getfield 7, 3) := by decide +kernel
theorem dX6_propose_36 : decode cX6_propose 36 = .ok (.iconst 3, 1) := by decide +kernel
theorem dX6_propose_37 : decode cX6_propose 37 = .ok (.iaload, 1) := by decide +kernel
theorem dX6_propose_38 : decode cX6_propose 38 = .ok (.bipush 60, 2) := by decide +kernel
theorem dX6_propose_40 : decode cX6_propose 40 = .ok (.if_icmp .ne 6, 3) := by decide +kernel
theorem dX6_propose_43 : decode cX6_propose 43 = .ok (.bipush (-3), 2) := by decide +kernel
theorem dX6_propose_45 : decode cX6_propose 45 = .ok (.ireturn, 1) := by decide +kernel
theorem dX6_propose_46 : decode cX6_propose 46 = .ok (.aload_n 0, 1) := by decide +kernel
theorem dX6_propose_47 : decode cX6_propose 47 = .ok (.invokevirtual 52, 3) := by decide +kernel
theorem dX6_propose_50 : decode cX6_propose 50 = .ok (.aload_n 0, 1) := by decide +kernel
theorem dX6_propose_51 : decode cX6_propose 51 = .ok (.iload_n 1, 1) := by decide +kernel
theorem dX6_propose_52 : decode cX6_propose 52 = .ok (.iload_n 2, 1) := by decide +kernel
theorem dX6_propose_53 : decode cX6_propose 53 = .ok (.invokevirtual 94, 3) := by decide +kernel
theorem dX6_propose_56 : decode cX6_propose 56 = .ok (.istore_n 3, 1) := by decide +kernel
theorem dX6_propose_57 : decode cX6_propose 57 = .ok (.aload_n 0, 1) := by decide +kernel
theorem dX6_propose_58 : decode cX6_propose 58 = .ok (.invokevirtual 97, 3) := by decide +kernel
theorem dX6_propose_61 : decode cX6_propose 61 = .ok (.ifCond .ge 8, 3) := by decide +kernel
theorem dX6_propose_64 : decode cX6_propose 64 = .ok (.bipush (-9), 2) := by decide +kernel
theorem dX6_propose_66 : decode cX6_propose 66 = .ok (.goto 4, 3) := by decide +kernel
theorem dX6_propose_69 : decode cX6_propose 69 = .ok (.iload_n 3, 1) := by decide +kernel
theorem dX6_propose_70 : decode cX6_propose 70 = .ok (.ireturn, 1) := by decide +kernel
set_option maxRecDepth 20000 in
theorem ggX6_second_X6_isVillager : GoodIn wsX6_second wsX6_isVillager := goodIn_r _ [6, 1, 54, 55, 56, 57, 58, 59, 60, 61, 62] (by decide +kernel) (by decide +kernel)
set_option maxRecDepth 20000 in
theorem gX6_second_X6_isVillager : GoodIn wsX6_second (wsV RX6 55 RX6 yX6_isVillager wsX6_isVillager) := goodIn_app (goodIn_of _ (by decide +kernel)) ggX6_second_X6_isVillager
set_option maxRecDepth 20000 in
theorem ggX6_second_X6_isEntry : GoodIn wsX6_second wsX6_isEntry := goodIn_r _ [10, 1, 54, 55, 56, 57, 58, 59, 60, 61, 62] (by decide +kernel) (by decide +kernel)
set_option maxRecDepth 20000 in
theorem gX6_second_X6_isEntry : GoodIn wsX6_second (wsV RX6 100 RX6 yX6_isEntry wsX6_isEntry) := goodIn_app (goodIn_of _ (by decide +kernel)) ggX6_second_X6_isEntry
set_option maxRecDepth 20000 in
theorem ggX6_second_X6_isElder : GoodIn wsX6_second wsX6_isElder := goodIn_r _ [14, 15, 16, 17, 5, 18, 1, 19, 20, 21, 22, 23, 24, 25, 26, 54, 55, 56, 57, 58, 59, 60, 61, 62] (by decide +kernel) (by decide +kernel)
set_option maxRecDepth 20000 in
theorem gX6_second_X6_isElder : GoodIn wsX6_second (wsV RX6 72 RX6 yX6_isElder wsX6_isElder) := goodIn_app (goodIn_of _ (by decide +kernel)) ggX6_second_X6_isElder
set_option maxRecDepth 20000 in
theorem ggX6_second_X6_isPresent : GoodIn wsX6_second wsX6_isPresent := goodIn_r _ [30, 1, 54, 55, 56, 57, 58, 59, 60, 61, 62] (by decide +kernel) (by decide +kernel)
set_option maxRecDepth 20000 in
theorem gX6_second_X6_isPresent : GoodIn wsX6_second (wsV RX6 75 RX6 yX6_isPresent wsX6_isPresent) := goodIn_app (goodIn_of _ (by decide +kernel)) ggX6_second_X6_isPresent
set_option maxRecDepth 20000 in
theorem ggX6_second_X6_acts : GoodIn wsX6_second wsX6_acts := goodIn_r _ [34, 35, 36, 37, 1, 54, 55, 56, 57, 58, 59, 60, 61, 62] (by decide +kernel) (by decide +kernel)
set_option maxRecDepth 20000 in
theorem gX6_second_X6_acts : GoodIn wsX6_second (wsV RX6 52 RX6 yX6_acts wsX6_acts) := goodIn_app (goodIn_of _ (by decide +kernel)) ggX6_second_X6_acts
set_option maxRecDepth 20000 in
theorem ggX6_second_X6_agrees : GoodIn wsX6_second wsX6_agrees := goodIn_r _ [41, 1, 42, 43, 44, 5, 45, 46, 47, 48, 49, 19, 20, 21, 22, 23, 24, 25, 26, 50, 51, 52, 53, 54, 55, 56, 57, 58, 59, 60, 61, 62] (by decide +kernel) (by decide +kernel)
set_option maxRecDepth 20000 in
theorem gX6_second_X6_agrees : GoodIn wsX6_second (wsV RX6 97 RX6 yX6_agrees wsX6_agrees) := goodIn_app (goodIn_of _ (by decide +kernel)) ggX6_second_X6_agrees
theorem dX6_second_0 : decode cX6_second 0 = .ok (.aload_n 0, 1) := by decide +kernel
theorem dX6_second_1 : decode cX6_second 1 = .ok (.iload_n 1, 1) := by decide +kernel
theorem dX6_second_2 : decode cX6_second 2 = .ok (.invokevirtual 55, 3) := by decide +kernel
theorem dX6_second_5 : decode cX6_second 5 = .ok (.ifCond .eq 11, 3) := by decide +kernel
theorem dX6_second_8 : decode cX6_second 8 = .ok (.aload_n 0, 1) := by decide +kernel
theorem dX6_second_9 : decode cX6_second 9 = .ok (.iload_n 2, 1) := by decide +kernel
theorem dX6_second_10 : decode cX6_second 10 = .ok (.invokevirtual 100, 3) := by decide +kernel
theorem dX6_second_13 : decode cX6_second 13 = .ok (.ifCond .ne 5, 3) := by decide +kernel
theorem dX6_second_16 : decode cX6_second 16 = .ok (.iconst (-1), 1) := by decide +kernel
theorem dX6_second_17 : decode cX6_second 17 = .ok (.ireturn, 1) := by decide +kernel
theorem dX6_second_18 : decode cX6_second 18 = .ok (.aload_n 0, 1) := by decide +kernel
theorem dX6_second_19 : decode cX6_second 19 = .ok (.iload_n 1, 1) := by decide +kernel
theorem dX6_second_20 : decode cX6_second 20 = .ok (.invokevirtual 72, 3) := by decide +kernel
theorem dX6_second_23 : decode cX6_second 23 = .ok (.ifCond .eq 24, 3) := by decide +kernel
theorem dX6_second_26 : decode cX6_second 26 = .ok (.aload_n 0, 1) := by decide +kernel
theorem dX6_second_27 : decode cX6_second 27 = .ok (.iload_n 1, 1) := by decide +kernel
theorem dX6_second_28 : decode cX6_second 28 = .ok (.invokevirtual 75, 3) := by decide +kernel
theorem dX6_second_31 : decode cX6_second 31 = .ok (.ifCond .eq 16, 3) := by decide +kernel
theorem dX6_second_34 : decode cX6_second 34 = .ok (.aload_n 0, 1) := by decide +kernel
theorem dX6_second_35 : decode cX6_second 35 = .ok (.getfield 7, 3) := by decide +kernel
theorem dX6_second_38 : decode cX6_second 38 = .ok (.bipush 20, 2) := by decide +kernel
theorem dX6_second_40 : decode cX6_second 40 = .ok (.iload_n 1, 1) := by decide +kernel
theorem dX6_second_41 : decode cX6_second 41 = .ok (.iadd, 1) := by decide +kernel
theorem dX6_second_42 : decode cX6_second 42 = .ok (.iaload, 1) := by decide +kernel
theorem dX6_second_43 : decode cX6_second 43 = .ok (.iload_n 2, 1) := by decide +kernel
theorem dX6_second_44 : decode cX6_second 44 = .ok (.if_icmp .eq 6, 3) := by decide +kernel
theorem dX6_second_47 : decode cX6_second 47 = .ok (.bipush (-2), 2) := by decide +kernel
theorem dX6_second_49 : decode cX6_second 49 = .ok (.ireturn, 1) := by decide +kernel
theorem dX6_second_50 : decode cX6_second 50 = .ok (.aload_n 0, 1) := by decide +kernel
theorem dX6_second_51 : decode cX6_second 51 = .ok (.invokevirtual 52, 3) := by decide +kernel
theorem dX6_second_54 : decode cX6_second 54 = .ok (.aload_n 0, 1) := by decide +kernel
theorem dX6_second_55 : decode cX6_second 55 = .ok (.getfield 7, 3) := by decide +kernel
theorem dX6_second_58 : decode cX6_second 58 = .ok (.bipush 20, 2) := by decide +kernel
theorem dX6_second_60 : decode cX6_second 60 = .ok (.iload_n 1, 1) := by decide +kernel
theorem dX6_second_61 : decode cX6_second 61 = .ok (.iadd, 1) := by decide +kernel
theorem dX6_second_62 : decode cX6_second 62 = .ok (.dup2, 1) := by decide +kernel
theorem dX6_second_63 : decode cX6_second 63 = .ok (.iaload, 1) := by decide +kernel
theorem dX6_second_64 : decode cX6_second 64 = .ok (.iconst 1, 1) := by decide +kernel
theorem dX6_second_65 : decode cX6_second 65 = .ok (.iadd, 1) := by decide +kernel
theorem dX6_second_66 : decode cX6_second 66 = .ok (.iastore, 1) := by decide +kernel
theorem dX6_second_67 : decode cX6_second 67 = .ok (.aload_n 0, 1) := by decide +kernel
theorem dX6_second_68 : decode cX6_second 68 = .ok (.invokevirtual 97, 3) := by decide +kernel
theorem dX6_second_71 : decode cX6_second 71 = .ok (.ireturn, 1) := by decide +kernel
set_option maxRecDepth 20000 in
theorem ggX6_learn_X6_isVillager : GoodIn wsX6_learn wsX6_isVillager := goodIn_r _ [6, 1, 18, 19, 20, 21, 22, 23, 24, 25, 26] (by decide +kernel) (by decide +kernel)
set_option maxRecDepth 20000 in
theorem gX6_learn_X6_isVillager : GoodIn wsX6_learn (wsV RX6 55 RX6 yX6_isVillager wsX6_isVillager) := goodIn_app (goodIn_of _ (by decide +kernel)) ggX6_learn_X6_isVillager
set_option maxRecDepth 20000 in
theorem ggX6_learn_X6_isPresent : GoodIn wsX6_learn wsX6_isPresent := goodIn_r _ [10, 1, 18, 19, 20, 21, 22, 23, 24, 25, 26] (by decide +kernel) (by decide +kernel)
set_option maxRecDepth 20000 in
theorem gX6_learn_X6_isPresent : GoodIn wsX6_learn (wsV RX6 75 RX6 yX6_isPresent wsX6_isPresent) := goodIn_app (goodIn_of _ (by decide +kernel)) ggX6_learn_X6_isPresent
set_option maxRecDepth 20000 in
theorem ggX6_learn_X6_acts : GoodIn wsX6_learn wsX6_acts := goodIn_r _ [14, 15, 16, 17, 1, 18, 19, 20, 21, 22, 23, 24, 25, 26] (by decide +kernel) (by decide +kernel)
set_option maxRecDepth 20000 in
theorem gX6_learn_X6_acts : GoodIn wsX6_learn (wsV RX6 52 RX6 yX6_acts wsX6_acts) := goodIn_app (goodIn_of _ (by decide +kernel)) ggX6_learn_X6_acts
theorem dX6_learn_0 : decode cX6_learn 0 = .ok (.aload_n 0, 1) := by decide +kernel
theorem dX6_learn_1 : decode cX6_learn 1 = .ok (.iload_n 1, 1) := by decide +kernel
theorem dX6_learn_2 : decode cX6_learn 2 = .ok (.invokevirtual 55, 3) := by decide +kernel
theorem dX6_learn_5 : decode cX6_learn 5 = .ok (.ifCond .ne 5, 3) := by decide +kernel
theorem dX6_learn_8 : decode cX6_learn 8 = .ok (.iconst (-1), 1) := by decide +kernel
theorem dX6_learn_9 : decode cX6_learn 9 = .ok (.ireturn, 1) := by decide +kernel
theorem dX6_learn_10 : decode cX6_learn 10 = .ok (.aload_n 0, 1) := by decide +kernel
theorem dX6_learn_11 : decode cX6_learn 11 = .ok (.iload_n 1, 1) := by decide +kernel
theorem dX6_learn_12 : decode cX6_learn 12 = .ok (.invokevirtual 75, 3) := by decide +kernel
theorem dX6_learn_15 : decode cX6_learn 15 = .ok (.ifCond .ne 6, 3) := by decide +kernel
theorem dX6_learn_18 : decode cX6_learn 18 = .ok (.bipush (-2), 2) := by decide +kernel
theorem dX6_learn_20 : decode cX6_learn 20 = .ok (.ireturn, 1) := by decide +kernel
theorem dX6_learn_21 : decode cX6_learn 21 = .ok (.aload_n 0, 1) := by decide +kernel
theorem dX6_learn_22 : decode cX6_learn 22 = .ok (.invokevirtual 52, 3) := by decide +kernel
theorem dX6_learn_25 : decode cX6_learn 25 = .ok (.aload_n 0, 1) := by decide +kernel
theorem dX6_learn_26 : decode cX6_learn 26 = .ok (.getfield 7, 3) := by decide +kernel
theorem dX6_learn_29 : decode cX6_learn 29 = .ok (.iconst 4, 1) := by decide +kernel
theorem dX6_learn_30 : decode cX6_learn 30 = .ok (.iaload, 1) := by decide +kernel
theorem dX6_learn_31 : decode cX6_learn 31 = .ok (.aload_n 0, 1) := by decide +kernel
theorem dX6_learn_32 : decode cX6_learn 32 = .ok (.getfield 7, 3) := by decide +kernel
theorem dX6_learn_35 : decode cX6_learn 35 = .ok (.bipush 20, 2) := by decide +kernel
theorem dX6_learn_37 : decode cX6_learn 37 = .ok (.iload_n 1, 1) := by decide +kernel
theorem dX6_learn_38 : decode cX6_learn 38 = .ok (.iadd, 1) := by decide +kernel
theorem dX6_learn_39 : decode cX6_learn 39 = .ok (.iaload, 1) := by decide +kernel
theorem dX6_learn_40 : decode cX6_learn 40 = .ok (.isub, 1) := by decide +kernel
theorem dX6_learn_41 : decode cX6_learn 41 = .ok (.istore_n 2, 1) := by decide +kernel
theorem dX6_learn_42 : decode cX6_learn 42 = .ok (.iload_n 2, 1) := by decide +kernel
theorem dX6_learn_43 : decode cX6_learn 43 = .ok (.ifCond .ge 7, 3) := by decide +kernel
theorem dX6_learn_46 : decode cX6_learn 46 = .ok (.iconst 0, 1) := by decide +kernel
theorem dX6_learn_47 : decode cX6_learn 47 = .ok (.goto 4, 3) := by decide +kernel
theorem dX6_learn_50 : decode cX6_learn 50 = .ok (.iload_n 2, 1) := by decide +kernel
theorem dX6_learn_51 : decode cX6_learn 51 = .ok (.istore_n 2, 1) := by decide +kernel
theorem dX6_learn_52 : decode cX6_learn 52 = .ok (.aload_n 0, 1) := by decide +kernel
theorem dX6_learn_53 : decode cX6_learn 53 = .ok (.getfield 7, 3) := by decide +kernel
theorem dX6_learn_56 : decode cX6_learn 56 = .ok (.bipush 20, 2) := by decide +kernel
theorem dX6_learn_58 : decode cX6_learn 58 = .ok (.iload_n 1, 1) := by decide +kernel
theorem dX6_learn_59 : decode cX6_learn 59 = .ok (.iadd, 1) := by decide +kernel
theorem dX6_learn_60 : decode cX6_learn 60 = .ok (.dup2, 1) := by decide +kernel
theorem dX6_learn_61 : decode cX6_learn 61 = .ok (.iaload, 1) := by decide +kernel
theorem dX6_learn_62 : decode cX6_learn 62 = .ok (.iload_n 2, 1) := by decide +kernel
theorem dX6_learn_63 : decode cX6_learn 63 = .ok (.iadd, 1) := by decide +kernel
theorem dX6_learn_64 : decode cX6_learn 64 = .ok (.iastore, 1) := by decide +kernel
theorem dX6_learn_65 : decode cX6_learn 65 = .ok (.iload_n 2, 1) := by decide +kernel
theorem dX6_learn_66 : decode cX6_learn 66 = .ok (.ireturn, 1) := by decide +kernel
theorem dX6_undo_0 : decode cX6_undo 0 = .ok (.aload_n 0, 1) := by decide +kernel
theorem dX6_undo_1 : decode cX6_undo 1 = .ok (.getfield 26, 3) := by decide +kernel
theorem dX6_undo_4 : decode cX6_undo 4 = .ok (.ifCond .ne 6, 3) := by decide +kernel
theorem dX6_undo_7 : decode cX6_undo 7 = .ok (.bipush (-2), 2) := by decide +kernel
theorem dX6_undo_9 : decode cX6_undo 9 = .ok (.ireturn, 1) := by decide +kernel
theorem dX6_undo_10 : decode cX6_undo 10 = .ok (.aload_n 0, 1) := by decide +kernel
theorem dX6_undo_11 : decode cX6_undo 11 = .ok (.dup, 1) := by decide +kernel
theorem dX6_undo_12 : decode cX6_undo 12 = .ok (.getfield 26, 3) := by decide +kernel
theorem dX6_undo_15 : decode cX6_undo 15 = .ok (.iconst 1, 1) := by decide +kernel
theorem dX6_undo_16 : decode cX6_undo 16 = .ok (.isub, 1) := by decide +kernel
theorem dX6_undo_17 : decode cX6_undo 17 = .ok (.putfield 26, 3) := by decide +kernel
theorem dX6_undo_20 : decode cX6_undo 20 = .ok (.iconst 0, 1) := by decide +kernel
theorem dX6_undo_21 : decode cX6_undo 21 = .ok (.istore_n 1, 1) := by decide +kernel
theorem dX6_undo_22 : decode cX6_undo 22 = .ok (.iload_n 1, 1) := by decide +kernel
theorem dX6_undo_23 : decode cX6_undo 23 = .ok (.sipush 522, 3) := by decide +kernel
theorem dX6_undo_26 : decode cX6_undo 26 = .ok (.if_icmp .ge 30, 3) := by decide +kernel
theorem dX6_undo_29 : decode cX6_undo 29 = .ok (.aload_n 0, 1) := by decide +kernel
theorem dX6_undo_30 : decode cX6_undo 30 = .ok (.getfield 7, 3) := by decide +kernel
theorem dX6_undo_33 : decode cX6_undo 33 = .ok (.iload_n 1, 1) := by decide +kernel
theorem dX6_undo_34 : decode cX6_undo 34 = .ok (.aload_n 0, 1) := by decide +kernel
theorem dX6_undo_35 : decode cX6_undo 35 = .ok (.getfield 13, 3) := by decide +kernel
theorem dX6_undo_38 : decode cX6_undo 38 = .ok (.sipush 522, 3) := by decide +kernel
theorem dX6_undo_41 : decode cX6_undo 41 = .ok (.aload_n 0, 1) := by decide +kernel
theorem dX6_undo_42 : decode cX6_undo 42 = .ok (.getfield 26, 3) := by decide +kernel
theorem dX6_undo_45 : decode cX6_undo 45 = .ok (.imul, 1) := by decide +kernel
theorem dX6_undo_46 : decode cX6_undo 46 = .ok (.iload_n 1, 1) := by decide +kernel
theorem dX6_undo_47 : decode cX6_undo 47 = .ok (.iadd, 1) := by decide +kernel
theorem dX6_undo_48 : decode cX6_undo 48 = .ok (.iaload, 1) := by decide +kernel
theorem dX6_undo_49 : decode cX6_undo 49 = .ok (.iastore, 1) := by decide +kernel
theorem dX6_undo_50 : decode cX6_undo 50 = .ok (.iinc 1 1, 3) := by decide +kernel
theorem dX6_undo_53 : decode cX6_undo 53 = .ok (.goto (-31), 3) := by decide +kernel
theorem dX6_undo_56 : decode cX6_undo 56 = .ok (.aload_n 0, 1) := by decide +kernel
theorem dX6_undo_57 : decode cX6_undo 57 = .ok (.getfield 26, 3) := by decide +kernel
theorem dX6_undo_60 : decode cX6_undo 60 = .ok (.ireturn, 1) := by decide +kernel
set_option maxRecDepth 20000 in
theorem ggX6_append_X6_in : GoodIn wsX6_append wsX6_in := goodIn_r _ [6] (by decide +kernel) (by decide +kernel)
set_option maxRecDepth 20000 in
theorem gX6_append_X6_in : GoodIn wsX6_append (va_wsS RX6 58 yX6_in wsX6_in) := goodIn_app (goodIn_of _ (by decide +kernel)) ggX6_append_X6_in
theorem dX6_append_0 : decode cX6_append 0 = .ok (.iload_n 1, 1) := by decide +kernel
theorem dX6_append_1 : decode cX6_append 1 = .ok (.iconst 1, 1) := by decide +kernel
theorem dX6_append_2 : decode cX6_append 2 = .ok (.sipush 255, 3) := by decide +kernel
theorem dX6_append_5 : decode cX6_append 5 = .ok (.invokestatic 58, 3) := by decide +kernel
theorem dX6_append_8 : decode cX6_append 8 = .ok (.ifCond .ne 5, 3) := by decide +kernel
theorem dX6_append_11 : decode cX6_append 11 = .ok (.iconst (-1), 1) := by decide +kernel
theorem dX6_append_12 : decode cX6_append 12 = .ok (.ireturn, 1) := by decide +kernel
theorem dX6_append_13 : decode cX6_append 13 = .ok (.aload_n 0, 1) := by decide +kernel
theorem dX6_append_14 : decode cX6_append 14 = .ok (.getfield 103, 3) := by decide +kernel
theorem dX6_append_17 : decode cX6_append 17 = .ok (.bipush 60, 2) := by decide +kernel
theorem dX6_append_19 : decode cX6_append 19 = .ok (.if_icmp .ne 6, 3) := by decide +kernel
theorem dX6_append_22 : decode cX6_append 22 = .ok (.bipush (-3), 2) := by decide +kernel
theorem dX6_append_24 : decode cX6_append 24 = .ok (.ireturn, 1) := by decide +kernel
theorem dX6_append_25 : decode cX6_append 25 = .ok (.aload_n 0, 1) := by decide +kernel
theorem dX6_append_26 : decode cX6_append 26 = .ok (.getfield 19, 3) := by decide +kernel
theorem dX6_append_29 : decode cX6_append 29 = .ok (.aload_n 0, 1) := by decide +kernel
theorem dX6_append_30 : decode cX6_append 30 = .ok (.getfield 103, 3) := by decide +kernel
theorem dX6_append_33 : decode cX6_append 33 = .ok (.iload_n 1, 1) := by decide +kernel
theorem dX6_append_34 : decode cX6_append 34 = .ok (.iastore, 1) := by decide +kernel
theorem dX6_append_35 : decode cX6_append 35 = .ok (.aload_n 0, 1) := by decide +kernel
theorem dX6_append_36 : decode cX6_append 36 = .ok (.dup, 1) := by decide +kernel
theorem dX6_append_37 : decode cX6_append 37 = .ok (.getfield 103, 3) := by decide +kernel
theorem dX6_append_40 : decode cX6_append 40 = .ok (.iconst 1, 1) := by decide +kernel
theorem dX6_append_41 : decode cX6_append 41 = .ok (.iadd, 1) := by decide +kernel
theorem dX6_append_42 : decode cX6_append 42 = .ok (.putfield 103, 3) := by decide +kernel
theorem dX6_append_45 : decode cX6_append 45 = .ok (.aload_n 0, 1) := by decide +kernel
theorem dX6_append_46 : decode cX6_append 46 = .ok (.getfield 103, 3) := by decide +kernel
theorem dX6_append_49 : decode cX6_append 49 = .ok (.ireturn, 1) := by decide +kernel
theorem dX6_clearText_0 : decode cX6_clearText 0 = .ok (.aload_n 0, 1) := by decide +kernel
theorem dX6_clearText_1 : decode cX6_clearText 1 = .ok (.getfield 103, 3) := by decide +kernel
theorem dX6_clearText_4 : decode cX6_clearText 4 = .ok (.istore_n 1, 1) := by decide +kernel
theorem dX6_clearText_5 : decode cX6_clearText 5 = .ok (.aload_n 0, 1) := by decide +kernel
theorem dX6_clearText_6 : decode cX6_clearText 6 = .ok (.iconst 0, 1) := by decide +kernel
theorem dX6_clearText_7 : decode cX6_clearText 7 = .ok (.putfield 103, 3) := by decide +kernel
theorem dX6_clearText_10 : decode cX6_clearText 10 = .ok (.iload_n 1, 1) := by decide +kernel
theorem dX6_clearText_11 : decode cX6_clearText 11 = .ok (.ireturn, 1) := by decide +kernel
set_option maxRecDepth 20000 in
theorem ggX6_isAt_X6_in : GoodIn wsX6_isAt wsX6_in := goodIn_r _ [7] (by decide +kernel) (by decide +kernel)
set_option maxRecDepth 20000 in
theorem gX6_isAt_X6_in : GoodIn wsX6_isAt (va_wsS RX6 58 yX6_in wsX6_in) := goodIn_app (goodIn_of _ (by decide +kernel)) ggX6_isAt_X6_in
theorem dX6_isAt_0 : decode cX6_isAt 0 = .ok (.aload_n 0, 1) := by decide +kernel
theorem dX6_isAt_1 : decode cX6_isAt 1 = .ok (.getfield 106, 3) := by decide +kernel
theorem dX6_isAt_4 : decode cX6_isAt 4 = .ok (.aload_n 0, 1) := by decide +kernel
theorem dX6_isAt_5 : decode cX6_isAt 5 = .ok (.getfield 103, 3) := by decide +kernel
theorem dX6_isAt_8 : decode cX6_isAt 8 = .ok (.if_icmp .ge 24, 3) := by decide +kernel
theorem dX6_isAt_11 : decode cX6_isAt 11 = .ok (.aload_n 0, 1) := by decide +kernel
theorem dX6_isAt_12 : decode cX6_isAt 12 = .ok (.getfield 19, 3) := by decide +kernel
theorem dX6_isAt_15 : decode cX6_isAt 15 = .ok (.aload_n 0, 1) := by decide +kernel
theorem dX6_isAt_16 : decode cX6_isAt 16 = .ok (.getfield 106, 3) := by decide +kernel
theorem dX6_isAt_19 : decode cX6_isAt 19 = .ok (.iaload, 1) := by decide +kernel
theorem dX6_isAt_20 : decode cX6_isAt 20 = .ok (.iload_n 1, 1) := by decide +kernel
theorem dX6_isAt_21 : decode cX6_isAt 21 = .ok (.iload_n 2, 1) := by decide +kernel
theorem dX6_isAt_22 : decode cX6_isAt 22 = .ok (.invokestatic 58, 3) := by decide +kernel
theorem dX6_isAt_25 : decode cX6_isAt 25 = .ok (.ifCond .eq 7, 3) := by decide +kernel
theorem dX6_isAt_28 : decode cX6_isAt 28 = .ok (.iconst 1, 1) := by decide +kernel
theorem dX6_isAt_29 : decode cX6_isAt 29 = .ok (.goto 4, 3) := by decide +kernel
theorem dX6_isAt_32 : decode cX6_isAt 32 = .ok (.iconst 0, 1) := by decide +kernel
theorem dX6_isAt_33 : decode cX6_isAt 33 = .ok (.ireturn, 1) := by decide +kernel
set_option maxRecDepth 20000 in
theorem ggX6_number_X6_isAt : GoodIn wsX6_number wsX6_isAt := goodIn_r _ [8, 1, 9, 3, 10, 11, 7, 12, 13, 14, 15, 16, 17, 18, 19, 20, 21] (by decide +kernel) (by decide +kernel)
set_option maxRecDepth 20000 in
theorem gX6_number_X6_isAt : GoodIn wsX6_number (wsV RX6 112 RX6 yX6_isAt wsX6_isAt) := goodIn_app (goodIn_of _ (by decide +kernel)) ggX6_number_X6_isAt
theorem dX6_number_0 : decode cX6_number 0 = .ok (.aload_n 0, 1) := by decide +kernel
theorem dX6_number_1 : decode cX6_number 1 = .ok (.getfield 106, 3) := by decide +kernel
theorem dX6_number_4 : decode cX6_number 4 = .ok (.istore_n 2, 1) := by decide +kernel
theorem dX6_number_5 : decode cX6_number 5 = .ok (.aload_n 0, 1) := by decide +kernel
theorem dX6_number_6 : decode cX6_number 6 = .ok (.iconst 0, 1) := by decide +kernel
theorem dX6_number_7 : decode cX6_number 7 = .ok (.putfield 109, 3) := by decide +kernel
theorem dX6_number_10 : decode cX6_number 10 = .ok (.aload_n 0, 1) := by decide +kernel
theorem dX6_number_11 : decode cX6_number 11 = .ok (.bipush 48, 2) := by decide +kernel
theorem dX6_number_13 : decode cX6_number 13 = .ok (.bipush 57, 2) := by decide +kernel
theorem dX6_number_15 : decode cX6_number 15 = .ok (.invokevirtual 112, 3) := by decide +kernel
theorem dX6_number_18 : decode cX6_number 18 = .ok (.ifCond .eq 65, 3) := by decide +kernel
theorem dX6_number_21 : decode cX6_number 21 = .ok (.aload_n 0, 1) := by decide +kernel
theorem dX6_number_22 : decode cX6_number 22 = .ok (.getfield 106, 3) := by decide +kernel
theorem dX6_number_25 : decode cX6_number 25 = .ok (.iload_n 2, 1) := by decide +kernel
theorem dX6_number_26 : decode cX6_number 26 = .ok (.isub, 1) := by decide +kernel
theorem dX6_number_27 : decode cX6_number 27 = .ok (.iconst 3, 1) := by decide +kernel
theorem dX6_number_28 : decode cX6_number 28 = .ok (.if_icmp .ge 55, 3) := by decide +kernel
theorem dX6_number_31 : decode cX6_number 31 = .ok (.aload_n 0, 1) := by decide +kernel
theorem dX6_number_32 : decode cX6_number 32 = .ok (.getfield 106, 3) := by decide +kernel
theorem dX6_number_35 : decode cX6_number 35 = .ok (.iload_n 2, 1) := by decide +kernel
theorem dX6_number_36 : decode cX6_number 36 = .ok (.if_icmp .eq 10, 3) := by decide +kernel
theorem dX6_number_39 : decode cX6_number 39 = .ok (.aload_n 0, 1) := by decide +kernel
theorem dX6_number_40 : decode cX6_number 40 = .ok (.getfield 109, 3) := by decide +kernel
theorem dX6_number_43 : decode cX6_number 43 = .ok (.ifCond .le 40, 3) := by decide +kernel
theorem dX6_number_46 : decode cX6_number 46 = .ok (.aload_n 0, 1) := by decide +kernel
theorem dX6_number_47 : decode cX6_number 47 = .ok (.bipush 10, 2) := by decide +kernel
theorem dX6_number_49 : decode cX6_number 49 = .ok (.aload_n 0, 1) := by decide +kernel
theorem dX6_number_50 : decode cX6_number 50 = .ok (.getfield 109, 3) := by decide +kernel
theorem dX6_number_53 : decode cX6_number 53 = .ok (.imul, 1) := by decide +kernel
theorem dX6_number_54 : decode cX6_number 54 = .ok (.aload_n 0, 1) := by decide +kernel
theorem dX6_number_55 : decode cX6_number 55 = .ok (.getfield 19, 3) := by decide +kernel
theorem dX6_number_58 : decode cX6_number 58 = .ok (.aload_n 0, 1) := by decide +kernel
theorem dX6_number_59 : decode cX6_number 59 = .ok (.getfield 106, 3) := by decide +kernel
theorem dX6_number_62 : decode cX6_number 62 = .ok (.iaload, 1) := by decide +kernel
theorem dX6_number_63 : decode cX6_number 63 = .ok (.iadd, 1) := by decide +kernel
theorem dX6_number_64 : decode cX6_number 64 = .ok (.bipush 48, 2) := by decide +kernel
theorem dX6_number_66 : decode cX6_number 66 = .ok (.isub, 1) := by decide +kernel
theorem dX6_number_67 : decode cX6_number 67 = .ok (.putfield 109, 3) := by decide +kernel
theorem dX6_number_70 : decode cX6_number 70 = .ok (.aload_n 0, 1) := by decide +kernel
theorem dX6_number_71 : decode cX6_number 71 = .ok (.dup, 1) := by decide +kernel
theorem dX6_number_72 : decode cX6_number 72 = .ok (.getfield 106, 3) := by decide +kernel
theorem dX6_number_75 : decode cX6_number 75 = .ok (.iconst 1, 1) := by decide +kernel
theorem dX6_number_76 : decode cX6_number 76 = .ok (.iadd, 1) := by decide +kernel
theorem dX6_number_77 : decode cX6_number 77 = .ok (.putfield 106, 3) := by decide +kernel
theorem dX6_number_80 : decode cX6_number 80 = .ok (.goto (-70), 3) := by decide +kernel
theorem dX6_number_83 : decode cX6_number 83 = .ok (.aload_n 0, 1) := by decide +kernel
theorem dX6_number_84 : decode cX6_number 84 = .ok (.getfield 106, 3) := by decide +kernel
theorem dX6_number_87 : decode cX6_number 87 = .ok (.iload_n 2, 1) := by decide +kernel
theorem dX6_number_88 : decode cX6_number 88 = .ok (.if_icmp .eq 12, 3) := by decide +kernel
theorem dX6_number_91 : decode cX6_number 91 = .ok (.aload_n 0, 1) := by decide +kernel
theorem dX6_number_92 : decode cX6_number 92 = .ok (.iload_n 1, 1) := by decide +kernel
theorem dX6_number_93 : decode cX6_number 93 = .ok (.iload_n 1, 1) := by decide +kernel
theorem dX6_number_94 : decode cX6_number 94 = .ok (.invokevirtual 112, 3) := by decide +kernel
theorem dX6_number_97 : decode cX6_number 97 = .ok (.ifCond .ne 5, 3) := by decide +kernel
theorem dX6_number_100 : decode cX6_number 100 = .ok (.iconst 0, 1) := by decide +kernel
theorem dX6_number_101 : decode cX6_number 101 = .ok (.ireturn, 1) := by decide +kernel
theorem dX6_number_102 : decode cX6_number 102 = .ok (.aload_n 0, 1) := by decide +kernel
theorem dX6_number_103 : decode cX6_number 103 = .ok (.dup, 1) := by decide +kernel
theorem dX6_number_104 : decode cX6_number 104 = .ok (.getfield 106, 3) := by decide +kernel
theorem dX6_number_107 : decode cX6_number 107 = .ok (.iconst 1, 1) := by decide +kernel
theorem dX6_number_108 : decode cX6_number 108 = .ok (.iadd, 1) := by decide +kernel
theorem dX6_number_109 : decode cX6_number 109 = .ok (.putfield 106, 3) := by decide +kernel
theorem dX6_number_112 : decode cX6_number 112 = .ok (.iconst 1, 1) := by decide +kernel
theorem dX6_number_113 : decode cX6_number 113 = .ok (.ireturn, 1) := by decide +kernel
set_option maxRecDepth 20000 in
theorem ggX6_doesOne_X6_number : GoodIn wsX6_doesOne wsX6_number := goodIn_r _ [8, 1, 3, 2, 9, 10, 11, 7, 12, 13, 14, 15, 16, 97, 98, 99, 100, 101, 102, 103, 104, 105] (by decide +kernel) (by decide +kernel)
set_option maxRecDepth 20000 in
theorem gX6_doesOne_X6_number : GoodIn wsX6_doesOne (wsV RX6 116 RX6 yX6_number wsX6_number) := goodIn_app (goodIn_of _ (by decide +kernel)) ggX6_doesOne_X6_number
set_option maxRecDepth 20000 in
theorem ggX6_doesOne_X6_propose : GoodIn wsX6_doesOne wsX6_propose := goodIn_r _ [20, 21, 22, 23, 24, 7, 25, 14, 15, 16, 26, 27, 28, 29, 30, 31, 32, 33, 34, 35, 36, 37, 38, 39, 40, 41, 42, 43, 44, 45, 46, 47, 48, 49, 50, 51, 52, 53, 54, 55, 56, 57, 58, 59, 60, 61, 62, 63, 64, 65, 66, 67, 68, 69, 70, 71, 72, 73, 74, 75, 76, 97, 98, 99, 100, 101, 102, 103, 104, 105] (by decide +kernel) (by decide +kernel)
set_option maxRecDepth 20000 in
theorem gX6_doesOne_X6_propose : GoodIn wsX6_doesOne (wsV RX6 119 RX6 yX6_propose wsX6_propose) := goodIn_app (goodIn_of _ (by decide +kernel)) ggX6_doesOne_X6_propose
set_option maxRecDepth 20000 in
theorem ggX6_doesOne_X6_second : GoodIn wsX6_doesOne wsX6_second := goodIn_r _ [80, 21, 22, 23, 24, 7, 25, 81, 82, 83, 84, 30, 31, 32, 33, 34, 35, 36, 37, 38, 39, 40, 41, 42, 43, 44, 45, 46, 47, 48, 49, 50, 51, 52, 53, 54, 55, 56, 61, 62, 63, 64, 65, 66, 67, 68, 69, 70, 71, 72, 73, 74, 75, 76, 97, 98, 99, 100, 101, 102, 103, 104, 105] (by decide +kernel) (by decide +kernel)
set_option maxRecDepth 20000 in
theorem gX6_doesOne_X6_second : GoodIn wsX6_doesOne (wsV RX6 122 RX6 yX6_second wsX6_second) := goodIn_app (goodIn_of _ (by decide +kernel)) ggX6_doesOne_X6_second
set_option maxRecDepth 20000 in
theorem ggX6_doesOne_X6_learn : GoodIn wsX6_doesOne wsX6_learn := goodIn_r _ [88, 21, 22, 23, 24, 7, 25, 46, 47, 48, 49, 50, 51, 52, 53, 54, 55, 56, 97, 98, 99, 100, 101, 102, 103, 104, 105] (by decide +kernel) (by decide +kernel)
set_option maxRecDepth 20000 in
theorem gX6_doesOne_X6_learn : GoodIn wsX6_doesOne (wsV RX6 125 RX6 yX6_learn wsX6_learn) := goodIn_app (goodIn_of _ (by decide +kernel)) ggX6_doesOne_X6_learn
set_option maxRecDepth 20000 in
theorem ggX6_doesOne_X6_attend : GoodIn wsX6_doesOne wsX6_attend := goodIn_r _ [92, 21, 22, 23, 24, 7, 25, 14, 15, 16, 50, 51, 52, 53, 54, 55, 56, 93, 94, 95, 96, 97, 98, 99, 100, 101, 102, 103, 104, 105] (by decide +kernel) (by decide +kernel)
set_option maxRecDepth 20000 in
theorem gX6_doesOne_X6_attend : GoodIn wsX6_doesOne (wsV RX6 128 RX6 yX6_attend wsX6_attend) := goodIn_app (goodIn_of _ (by decide +kernel)) ggX6_doesOne_X6_attend
theorem dX6_doesOne_0 : decode cX6_doesOne 0 = .ok (.aload_n 0, 1) := by decide +kernel
theorem dX6_doesOne_1 : decode cX6_doesOne 1 = .ok (.getfield 106, 3) := by decide +kernel
theorem dX6_doesOne_4 : decode cX6_doesOne 4 = .ok (.istore_n 1, 1) := by decide +kernel
theorem dX6_doesOne_5 : decode cX6_doesOne 5 = .ok (.aload_n 0, 1) := by decide +kernel
theorem dX6_doesOne_6 : decode cX6_doesOne 6 = .ok (.getfield 19, 3) := by decide +kernel
theorem dX6_doesOne_9 : decode cX6_doesOne 9 = .ok (.aload_n 0, 1) := by decide +kernel
theorem dX6_doesOne_10 : decode cX6_doesOne 10 = .ok (.getfield 106, 3) := by decide +kernel
theorem dX6_doesOne_13 : decode cX6_doesOne 13 = .ok (.iaload, 1) := by decide +kernel
theorem dX6_doesOne_14 : decode cX6_doesOne 14 = .ok (.istore_n 2, 1) := by decide +kernel
theorem dX6_doesOne_15 : decode cX6_doesOne 15 = .ok (.iload_n 2, 1) := by decide +kernel
theorem dX6_doesOne_16 : decode cX6_doesOne 16 = .ok (.bipush 112, 2) := by decide +kernel
theorem dX6_doesOne_18 : decode cX6_doesOne 18 = .ok (.if_icmp .eq 9, 3) := by decide +kernel
theorem dX6_doesOne_21 : decode cX6_doesOne 21 = .ok (.iload_n 2, 1) := by decide +kernel
theorem dX6_doesOne_22 : decode cX6_doesOne 22 = .ok (.bipush 115, 2) := by decide +kernel
theorem dX6_doesOne_24 : decode cX6_doesOne 24 = .ok (.if_icmp .ne 7, 3) := by decide +kernel
theorem dX6_doesOne_27 : decode cX6_doesOne 27 = .ok (.iconst 1, 1) := by decide +kernel
theorem dX6_doesOne_28 : decode cX6_doesOne 28 = .ok (.goto 4, 3) := by decide +kernel
theorem dX6_doesOne_31 : decode cX6_doesOne 31 = .ok (.iconst 0, 1) := by decide +kernel
theorem dX6_doesOne_32 : decode cX6_doesOne 32 = .ok (.istore_n 3, 1) := by decide +kernel
theorem dX6_doesOne_33 : decode cX6_doesOne 33 = .ok (.iload_n 3, 1) := by decide +kernel
theorem dX6_doesOne_34 : decode cX6_doesOne 34 = .ok (.ifCond .ne 23, 3) := by decide +kernel
theorem dX6_doesOne_37 : decode cX6_doesOne 37 = .ok (.iload_n 2, 1) := by decide +kernel
theorem dX6_doesOne_38 : decode cX6_doesOne 38 = .ok (.bipush 108, 2) := by decide +kernel
theorem dX6_doesOne_40 : decode cX6_doesOne 40 = .ok (.if_icmp .eq 17, 3) := by decide +kernel
theorem dX6_doesOne_43 : decode cX6_doesOne 43 = .ok (.iload_n 2, 1) := by decide +kernel
theorem dX6_doesOne_44 : decode cX6_doesOne 44 = .ok (.bipush 103, 2) := by decide +kernel
theorem dX6_doesOne_46 : decode cX6_doesOne 46 = .ok (.if_icmp .eq 11, 3) := by decide +kernel
theorem dX6_doesOne_49 : decode cX6_doesOne 49 = .ok (.iload_n 2, 1) := by decide +kernel
theorem dX6_doesOne_50 : decode cX6_doesOne 50 = .ok (.bipush 98, 2) := by decide +kernel
theorem dX6_doesOne_52 : decode cX6_doesOne 52 = .ok (.if_icmp .eq 5, 3) := by decide +kernel
theorem dX6_doesOne_55 : decode cX6_doesOne 55 = .ok (.iload_n 1, 1) := by decide +kernel
theorem dX6_doesOne_56 : decode cX6_doesOne 56 = .ok (.ireturn, 1) := by decide +kernel
theorem dX6_doesOne_57 : decode cX6_doesOne 57 = .ok (.aload_n 0, 1) := by decide +kernel
theorem dX6_doesOne_58 : decode cX6_doesOne 58 = .ok (.dup, 1) := by decide +kernel
theorem dX6_doesOne_59 : decode cX6_doesOne 59 = .ok (.getfield 106, 3) := by decide +kernel
theorem dX6_doesOne_62 : decode cX6_doesOne 62 = .ok (.iconst 1, 1) := by decide +kernel
theorem dX6_doesOne_63 : decode cX6_doesOne 63 = .ok (.iadd, 1) := by decide +kernel
theorem dX6_doesOne_64 : decode cX6_doesOne 64 = .ok (.putfield 106, 3) := by decide +kernel
theorem dX6_doesOne_67 : decode cX6_doesOne 67 = .ok (.aload_n 0, 1) := by decide +kernel
theorem dX6_doesOne_68 : decode cX6_doesOne 68 = .ok (.iload_n 3, 1) := by decide +kernel
theorem dX6_doesOne_69 : decode cX6_doesOne 69 = .ok (.ifCond .eq 8, 3) := by decide +kernel
theorem dX6_doesOne_72 : decode cX6_doesOne 72 = .ok (.bipush 58, 2) := by decide +kernel
theorem dX6_doesOne_74 : decode cX6_doesOne 74 = .ok (.goto 5, 3) := by decide +kernel
theorem dX6_doesOne_77 : decode cX6_doesOne 77 = .ok (.bipush 59, 2) := by decide +kernel
theorem dX6_doesOne_79 : decode cX6_doesOne 79 = .ok (.invokevirtual 116, 3) := by decide +kernel
theorem dX6_doesOne_82 : decode cX6_doesOne 82 = .ok (.ifCond .ne 8, 3) := by decide +kernel
theorem dX6_doesOne_85 : decode cX6_doesOne 85 = .ok (.aload_n 0, 1) := by decide +kernel
theorem dX6_doesOne_86 : decode cX6_doesOne 86 = .ok (.getfield 106, 3) := by decide +kernel
theorem dX6_doesOne_89 : decode cX6_doesOne 89 = .ok (.ireturn, 1) := by decide +kernel
theorem dX6_doesOne_90 : decode cX6_doesOne 90 = .ok (.aload_n 0, 1) := by decide +kernel
theorem dX6_doesOne_91 : decode cX6_doesOne 91 = .ok (.getfield 109, 3) := by decide +kernel
theorem dX6_doesOne_94 : decode cX6_doesOne 94 = .ok (.istore 4, 2) := by decide +kernel
theorem dX6_doesOne_96 : decode cX6_doesOne 96 = .ok (.iload_n 3, 1) := by decide +kernel
theorem dX6_doesOne_97 : decode cX6_doesOne 97 = .ok (.ifCond .eq 17, 3) := by decide +kernel
theorem dX6_doesOne_100 : decode cX6_doesOne 100 = .ok (.aload_n 0, 1) := by decide +kernel
theorem dX6_doesOne_101 : decode cX6_doesOne 101 = .ok (.bipush 59, 2) := by decide +kernel
theorem dX6_doesOne_103 : decode cX6_doesOne 103 = .ok (.invokevirtual 116, 3) := by decide +kernel
theorem dX6_doesOne_106 : decode cX6_doesOne 106 = .ok (.ifCond .ne 8, 3) := by decide +kernel
theorem dX6_doesOne_109 : decode cX6_doesOne 109 = .ok (.aload_n 0, 1) := by decide +kernel
theorem dX6_doesOne_110 : decode cX6_doesOne 110 = .ok (.getfield 106, 3) := by decide +kernel
theorem dX6_doesOne_113 : decode cX6_doesOne 113 = .ok (.ireturn, 1) := by decide +kernel
theorem dX6_doesOne_114 : decode cX6_doesOne 114 = .ok (.iload_n 2, 1) := by decide +kernel
theorem dX6_doesOne_115 : decode cX6_doesOne 115 = .ok (.bipush 112, 2) := by decide +kernel
theorem dX6_doesOne_117 : decode cX6_doesOne 117 = .ok (.if_icmp .ne 16, 3) := by decide +kernel
theorem dX6_doesOne_120 : decode cX6_doesOne 120 = .ok (.aload_n 0, 1) := by decide +kernel
theorem dX6_doesOne_121 : decode cX6_doesOne 121 = .ok (.iload 4, 2) := by decide +kernel
theorem dX6_doesOne_123 : decode cX6_doesOne 123 = .ok (.aload_n 0, 1) := by decide +kernel
theorem dX6_doesOne_124 : decode cX6_doesOne 124 = .ok (.getfield 109, 3) := by decide +kernel
theorem dX6_doesOne_127 : decode cX6_doesOne 127 = .ok (.invokevirtual 119, 3) := by decide +kernel
theorem dX6_doesOne_130 : decode cX6_doesOne 130 = .ok (.goto 54, 3) := by decide +kernel
theorem dX6_doesOne_133 : decode cX6_doesOne 133 = .ok (.iload_n 2, 1) := by decide +kernel
theorem dX6_doesOne_134 : decode cX6_doesOne 134 = .ok (.bipush 115, 2) := by decide +kernel
theorem dX6_doesOne_136 : decode cX6_doesOne 136 = .ok (.if_icmp .ne 16, 3) := by decide +kernel
theorem dX6_doesOne_139 : decode cX6_doesOne 139 = .ok (.aload_n 0, 1) := by decide +kernel
theorem dX6_doesOne_140 : decode cX6_doesOne 140 = .ok (.iload 4, 2) := by decide +kernel
theorem dX6_doesOne_142 : decode cX6_doesOne 142 = .ok (.aload_n 0, 1) := by decide +kernel
theorem dX6_doesOne_143 : decode cX6_doesOne 143 = .ok (.getfield 109, 3) := by decide +kernel
theorem dX6_doesOne_146 : decode cX6_doesOne 146 = .ok (.invokevirtual 122, 3) := by decide +kernel
theorem dX6_doesOne_149 : decode cX6_doesOne 149 = .ok (.goto 35, 3) := by decide +kernel
theorem dX6_doesOne_152 : decode cX6_doesOne 152 = .ok (.iload_n 2, 1) := by decide +kernel
theorem dX6_doesOne_153 : decode cX6_doesOne 153 = .ok (.bipush 108, 2) := by decide +kernel
theorem dX6_doesOne_155 : decode cX6_doesOne 155 = .ok (.if_icmp .ne 12, 3) := by decide +kernel
theorem dX6_doesOne_158 : decode cX6_doesOne 158 = .ok (.aload_n 0, 1) := by decide +kernel
theorem dX6_doesOne_159 : decode cX6_doesOne 159 = .ok (.iload 4, 2) := by decide +kernel
theorem dX6_doesOne_161 : decode cX6_doesOne 161 = .ok (.invokevirtual 125, 3) := by decide +kernel
theorem dX6_doesOne_164 : decode cX6_doesOne 164 = .ok (.goto 20, 3) := by decide +kernel
theorem dX6_doesOne_167 : decode cX6_doesOne 167 = .ok (.aload_n 0, 1) := by decide +kernel
theorem dX6_doesOne_168 : decode cX6_doesOne 168 = .ok (.iload 4, 2) := by decide +kernel
theorem dX6_doesOne_170 : decode cX6_doesOne 170 = .ok (.iload_n 2, 1) := by decide +kernel
theorem dX6_doesOne_171 : decode cX6_doesOne 171 = .ok (.bipush 98, 2) := by decide +kernel
theorem dX6_doesOne_173 : decode cX6_doesOne 173 = .ok (.if_icmp .ne 7, 3) := by decide +kernel
theorem dX6_doesOne_176 : decode cX6_doesOne 176 = .ok (.iconst 1, 1) := by decide +kernel
theorem dX6_doesOne_177 : decode cX6_doesOne 177 = .ok (.goto 4, 3) := by decide +kernel
theorem dX6_doesOne_180 : decode cX6_doesOne 180 = .ok (.iconst 0, 1) := by decide +kernel
theorem dX6_doesOne_181 : decode cX6_doesOne 181 = .ok (.invokevirtual 128, 3) := by decide +kernel
theorem dX6_doesOne_184 : decode cX6_doesOne 184 = .ok (.istore 5, 2) := by decide +kernel
theorem dX6_doesOne_186 : decode cX6_doesOne 186 = .ok (.iload 5, 2) := by decide +kernel
theorem dX6_doesOne_188 : decode cX6_doesOne 188 = .ok (.ifCond .ge 7, 3) := by decide +kernel
theorem dX6_doesOne_191 : decode cX6_doesOne 191 = .ok (.iload_n 1, 1) := by decide +kernel
theorem dX6_doesOne_192 : decode cX6_doesOne 192 = .ok (.goto 5, 3) := by decide +kernel
theorem dX6_doesOne_195 : decode cX6_doesOne 195 = .ok (.bipush (-9), 2) := by decide +kernel
theorem dX6_doesOne_197 : decode cX6_doesOne 197 = .ok (.ireturn, 1) := by decide +kernel
theorem dX6_exchanges_0 : decode cX6_exchanges 0 = .ok (.iconst 0, 1) := by decide +kernel
theorem dX6_exchanges_1 : decode cX6_exchanges 1 = .ok (.istore_n 1, 1) := by decide +kernel
theorem dX6_exchanges_2 : decode cX6_exchanges 2 = .ok (.iload_n 1, 1) := by decide +kernel
theorem dX6_exchanges_3 : decode cX6_exchanges 3 = .ok (.sipush 522, 3) := by decide +kernel
theorem dX6_exchanges_6 : decode cX6_exchanges 6 = .ok (.if_icmp .ge 35, 3) := by decide +kernel
theorem dX6_exchanges_9 : decode cX6_exchanges 9 = .ok (.aload_n 0, 1) := by decide +kernel
theorem dX6_exchanges_10 : decode cX6_exchanges 10 = .ok (.getfield 7, 3) := by decide +kernel
theorem dX6_exchanges_13 : decode cX6_exchanges 13 = .ok (.iload_n 1, 1) := by decide +kernel
theorem dX6_exchanges_14 : decode cX6_exchanges 14 = .ok (.iaload, 1) := by decide +kernel
theorem dX6_exchanges_15 : decode cX6_exchanges 15 = .ok (.istore_n 2, 1) := by decide +kernel
theorem dX6_exchanges_16 : decode cX6_exchanges 16 = .ok (.aload_n 0, 1) := by decide +kernel
theorem dX6_exchanges_17 : decode cX6_exchanges 17 = .ok (.getfield 7, 3) := by decide +kernel
theorem dX6_exchanges_20 : decode cX6_exchanges 20 = .ok (.iload_n 1, 1) := by decide +kernel
theorem dX6_exchanges_21 : decode cX6_exchanges 21 = .ok (.aload_n 0, 1) := by decide +kernel
theorem dX6_exchanges_22 : decode cX6_exchanges 22 = .ok (.getfield 16, 3) := by decide +kernel
theorem dX6_exchanges_25 : decode cX6_exchanges 25 = .ok (.iload_n 1, 1) := by decide +kernel
theorem dX6_exchanges_26 : decode cX6_exchanges 26 = .ok (.iaload, 1) := by decide +kernel
theorem dX6_exchanges_27 : decode cX6_exchanges 27 = .ok (.iastore, 1) := by decide +kernel
theorem dX6_exchanges_28 : decode cX6_exchanges 28 = .ok (.aload_n 0, 1) := by decide +kernel
theorem dX6_exchanges_29 : decode cX6_exchanges 29 = .ok (.getfield 16, 3) := by decide +kernel
theorem dX6_exchanges_32 : decode cX6_exchanges 32 = .ok (.iload_n 1, 1) := by decide +kernel
theorem dX6_exchanges_33 : decode cX6_exchanges 33 = .ok (.iload_n 2, 1) := by decide +kernel
theorem dX6_exchanges_34 : decode cX6_exchanges 34 = .ok (.iastore, 1) := by decide +kernel
theorem dX6_exchanges_35 : decode cX6_exchanges 35 = .ok (.iinc 1 1, 3) := by decide +kernel
theorem dX6_exchanges_38 : decode cX6_exchanges 38 = .ok (.goto (-36), 3) := by decide +kernel
theorem dX6_exchanges_41 : decode cX6_exchanges 41 = .ok (.return_, 1) := by decide +kernel
theorem dX6_holds_0 : decode cX6_holds 0 = .ok (.iconst 0, 1) := by decide +kernel
theorem dX6_holds_1 : decode cX6_holds 1 = .ok (.istore_n 1, 1) := by decide +kernel
theorem dX6_holds_2 : decode cX6_holds 2 = .ok (.iload_n 1, 1) := by decide +kernel
theorem dX6_holds_3 : decode cX6_holds 3 = .ok (.sipush 522, 3) := by decide +kernel
theorem dX6_holds_6 : decode cX6_holds 6 = .ok (.if_icmp .ge 21, 3) := by decide +kernel
theorem dX6_holds_9 : decode cX6_holds 9 = .ok (.aload_n 0, 1) := by decide +kernel
theorem dX6_holds_10 : decode cX6_holds 10 = .ok (.getfield 16, 3) := by decide +kernel
theorem dX6_holds_13 : decode cX6_holds 13 = .ok (.iload_n 1, 1) := by decide +kernel
theorem dX6_holds_14 : decode cX6_holds 14 = .ok (.aload_n 0, 1) := by decide +kernel
theorem dX6_holds_15 : decode cX6_holds 15 = .ok (.getfield 7, 3) := by decide +kernel
theorem dX6_holds_18 : decode cX6_holds 18 = .ok (.iload_n 1, 1) := by decide +kernel
theorem dX6_holds_19 : decode cX6_holds 19 = .ok (.iaload, 1) := by decide +kernel
theorem dX6_holds_20 : decode cX6_holds 20 = .ok (.iastore, 1) := by decide +kernel
theorem dX6_holds_21 : decode cX6_holds 21 = .ok (.iinc 1 1, 3) := by decide +kernel
theorem dX6_holds_24 : decode cX6_holds 24 = .ok (.goto (-22), 3) := by decide +kernel
theorem dX6_holds_27 : decode cX6_holds 27 = .ok (.return_, 1) := by decide +kernel
set_option maxRecDepth 20000 in
theorem ggX6_run_X6_holds : GoodIn wsX6_run wsX6_holds := goodIn_r _ [8, 9, 10, 110, 111, 112, 113, 114, 115, 116, 117, 118] (by decide +kernel) (by decide +kernel)
set_option maxRecDepth 20000 in
theorem gX6_run_X6_holds : GoodIn wsX6_run (wsV RX6 131 RX6 yX6_holds wsX6_holds) := goodIn_app (goodIn_of _ (by decide +kernel)) ggX6_run_X6_holds
set_option maxRecDepth 20000 in
theorem ggX6_run_X6_doesOne : GoodIn wsX6_run wsX6_doesOne := goodIn_r _ [14, 2, 15, 16, 17, 18, 19, 7, 20, 21, 22, 23, 24, 3, 25, 26, 27, 28, 29, 30, 31, 10, 32, 33, 34, 35, 36, 37, 38, 39, 40, 41, 42, 43, 44, 45, 46, 47, 48, 49, 50, 51, 52, 53, 54, 55, 56, 57, 58, 59, 60, 61, 62, 63, 1, 64, 65, 66, 67, 68, 69, 70, 71, 72, 73, 74, 75, 76, 77, 78, 79, 80, 81, 82, 83, 84, 85, 86, 87, 88, 89, 90, 91, 92, 93, 94, 95, 96, 97, 98, 99, 100, 101, 102, 103, 104, 105, 110, 111, 112, 113, 114, 115, 116, 117, 118] (by decide +kernel) (by decide +kernel)
set_option maxRecDepth 20000 in
theorem gX6_run_X6_doesOne : GoodIn wsX6_run (wsV RX6 134 RX6 yX6_doesOne wsX6_doesOne) := goodIn_app (goodIn_of _ (by decide +kernel)) ggX6_run_X6_doesOne
set_option maxRecDepth 20000 in
theorem ggX6_run_X6_exchanges : GoodIn wsX6_run wsX6_exchanges := goodIn_r _ [109, 10, 9, 110, 111, 112, 113, 114, 115, 116, 117, 118] (by decide +kernel) (by decide +kernel)
set_option maxRecDepth 20000 in
theorem gX6_run_X6_exchanges : GoodIn wsX6_run (wsV RX6 137 RX6 yX6_exchanges wsX6_exchanges) := goodIn_app (goodIn_of _ (by decide +kernel)) ggX6_run_X6_exchanges
set_option maxRecDepth 20000 in
theorem ggX6_run_X6_acts : GoodIn wsX6_run wsX6_acts := goodIn_r _ [63, 1, 64, 65, 10, 110, 111, 112, 113, 114, 115, 116, 117, 118] (by decide +kernel) (by decide +kernel)
set_option maxRecDepth 20000 in
theorem gX6_run_X6_acts : GoodIn wsX6_run (wsV RX6 52 RX6 yX6_acts wsX6_acts) := goodIn_app (goodIn_of _ (by decide +kernel)) ggX6_run_X6_acts
theorem dX6_run_0 : decode cX6_run 0 = .ok (.aload_n 0, 1) := by decide +kernel
theorem dX6_run_1 : decode cX6_run 1 = .ok (.invokevirtual 131, 3) := by decide +kernel
theorem dX6_run_4 : decode cX6_run 4 = .ok (.aload_n 0, 1) := by decide +kernel
theorem dX6_run_5 : decode cX6_run 5 = .ok (.iconst 1, 1) := by decide +kernel
theorem dX6_run_6 : decode cX6_run 6 = .ok (.putfield 22, 3) := by decide +kernel
theorem dX6_run_9 : decode cX6_run 9 = .ok (.iconst 0, 1) := by decide +kernel
theorem dX6_run_10 : decode cX6_run 10 = .ok (.istore_n 1, 1) := by decide +kernel
theorem dX6_run_11 : decode cX6_run 11 = .ok (.bipush (-9), 2) := by decide +kernel
theorem dX6_run_13 : decode cX6_run 13 = .ok (.istore_n 2, 1) := by decide +kernel
theorem dX6_run_14 : decode cX6_run 14 = .ok (.aload_n 0, 1) := by decide +kernel
theorem dX6_run_15 : decode cX6_run 15 = .ok (.iconst 0, 1) := by decide +kernel
theorem dX6_run_16 : decode cX6_run 16 = .ok (.putfield 106, 3) := by decide +kernel
theorem dX6_run_19 : decode cX6_run 19 = .ok (.iload_n 2, 1) := by decide +kernel
theorem dX6_run_20 : decode cX6_run 20 = .ok (.bipush (-9), 2) := by decide +kernel
theorem dX6_run_22 : decode cX6_run 22 = .ok (.if_icmp .ne 25, 3) := by decide +kernel
theorem dX6_run_25 : decode cX6_run 25 = .ok (.aload_n 0, 1) := by decide +kernel
theorem dX6_run_26 : decode cX6_run 26 = .ok (.getfield 106, 3) := by decide +kernel
theorem dX6_run_29 : decode cX6_run 29 = .ok (.aload_n 0, 1) := by decide +kernel
theorem dX6_run_30 : decode cX6_run 30 = .ok (.getfield 103, 3) := by decide +kernel
theorem dX6_run_33 : decode cX6_run 33 = .ok (.if_icmp .ge 14, 3) := by decide +kernel
theorem dX6_run_36 : decode cX6_run 36 = .ok (.aload_n 0, 1) := by decide +kernel
theorem dX6_run_37 : decode cX6_run 37 = .ok (.invokevirtual 134, 3) := by decide +kernel
theorem dX6_run_40 : decode cX6_run 40 = .ok (.istore_n 2, 1) := by decide +kernel
theorem dX6_run_41 : decode cX6_run 41 = .ok (.iinc 1 1, 3) := by decide +kernel
theorem dX6_run_44 : decode cX6_run 44 = .ok (.goto (-25), 3) := by decide +kernel
theorem dX6_run_47 : decode cX6_run 47 = .ok (.aload_n 0, 1) := by decide +kernel
theorem dX6_run_48 : decode cX6_run 48 = .ok (.iconst 0, 1) := by decide +kernel
theorem dX6_run_49 : decode cX6_run 49 = .ok (.putfield 22, 3) := by decide +kernel
theorem dX6_run_52 : decode cX6_run 52 = .ok (.aload_n 0, 1) := by decide +kernel
theorem dX6_run_53 : decode cX6_run 53 = .ok (.invokevirtual 137, 3) := by decide +kernel
theorem dX6_run_56 : decode cX6_run 56 = .ok (.iload_n 2, 1) := by decide +kernel
theorem dX6_run_57 : decode cX6_run 57 = .ok (.bipush (-9), 2) := by decide +kernel
theorem dX6_run_59 : decode cX6_run 59 = .ok (.if_icmp .eq 9, 3) := by decide +kernel
theorem dX6_run_62 : decode cX6_run 62 = .ok (.sipush (-1000), 3) := by decide +kernel
theorem dX6_run_65 : decode cX6_run 65 = .ok (.iload_n 2, 1) := by decide +kernel
theorem dX6_run_66 : decode cX6_run 66 = .ok (.isub, 1) := by decide +kernel
theorem dX6_run_67 : decode cX6_run 67 = .ok (.ireturn, 1) := by decide +kernel
theorem dX6_run_68 : decode cX6_run 68 = .ok (.aload_n 0, 1) := by decide +kernel
theorem dX6_run_69 : decode cX6_run 69 = .ok (.invokevirtual 52, 3) := by decide +kernel
theorem dX6_run_72 : decode cX6_run 72 = .ok (.aload_n 0, 1) := by decide +kernel
theorem dX6_run_73 : decode cX6_run 73 = .ok (.invokevirtual 137, 3) := by decide +kernel
theorem dX6_run_76 : decode cX6_run 76 = .ok (.aload_n 0, 1) := by decide +kernel
theorem dX6_run_77 : decode cX6_run 77 = .ok (.iconst 0, 1) := by decide +kernel
theorem dX6_run_78 : decode cX6_run 78 = .ok (.putfield 103, 3) := by decide +kernel
theorem dX6_run_81 : decode cX6_run 81 = .ok (.iload_n 1, 1) := by decide +kernel
theorem dX6_run_82 : decode cX6_run 82 = .ok (.ireturn, 1) := by decide +kernel
set_option maxRecDepth 20000 in
theorem ggX6_forged_X6_isForged : GoodIn wsX6_forged wsX6_isForged := goodIn_r _ [6, 1, 7, 8, 9, 10, 11, 12, 13, 14, 15] (by decide +kernel) (by decide +kernel)
set_option maxRecDepth 20000 in
theorem gX6_forged_X6_isForged : GoodIn wsX6_forged (wsV RX6 140 RX6 yX6_isForged wsX6_isForged) := goodIn_app (goodIn_of _ (by decide +kernel)) ggX6_forged_X6_isForged
theorem dX6_forged_0 : decode cX6_forged 0 = .ok (.iconst 0, 1) := by decide +kernel
theorem dX6_forged_1 : decode cX6_forged 1 = .ok (.istore_n 1, 1) := by decide +kernel
theorem dX6_forged_2 : decode cX6_forged 2 = .ok (.iconst 0, 1) := by decide +kernel
theorem dX6_forged_3 : decode cX6_forged 3 = .ok (.istore_n 2, 1) := by decide +kernel
theorem dX6_forged_4 : decode cX6_forged 4 = .ok (.iload_n 2, 1) := by decide +kernel
theorem dX6_forged_5 : decode cX6_forged 5 = .ok (.aload_n 0, 1) := by decide +kernel
theorem dX6_forged_6 : decode cX6_forged 6 = .ok (.getfield 7, 3) := by decide +kernel
theorem dX6_forged_9 : decode cX6_forged 9 = .ok (.bipush 7, 2) := by decide +kernel
theorem dX6_forged_11 : decode cX6_forged 11 = .ok (.iaload, 1) := by decide +kernel
theorem dX6_forged_12 : decode cX6_forged 12 = .ok (.if_icmp .ge 25, 3) := by decide +kernel
theorem dX6_forged_15 : decode cX6_forged 15 = .ok (.iload_n 1, 1) := by decide +kernel
theorem dX6_forged_16 : decode cX6_forged 16 = .ok (.aload_n 0, 1) := by decide +kernel
theorem dX6_forged_17 : decode cX6_forged 17 = .ok (.iload_n 2, 1) := by decide +kernel
theorem dX6_forged_18 : decode cX6_forged 18 = .ok (.invokevirtual 140, 3) := by decide +kernel
theorem dX6_forged_21 : decode cX6_forged 21 = .ok (.ifCond .eq 7, 3) := by decide +kernel
theorem dX6_forged_24 : decode cX6_forged 24 = .ok (.iconst 1, 1) := by decide +kernel
theorem dX6_forged_25 : decode cX6_forged 25 = .ok (.goto 4, 3) := by decide +kernel
theorem dX6_forged_28 : decode cX6_forged 28 = .ok (.iconst 0, 1) := by decide +kernel
theorem dX6_forged_29 : decode cX6_forged 29 = .ok (.iadd, 1) := by decide +kernel
theorem dX6_forged_30 : decode cX6_forged 30 = .ok (.istore_n 1, 1) := by decide +kernel
theorem dX6_forged_31 : decode cX6_forged 31 = .ok (.iinc 2 1, 3) := by decide +kernel
theorem dX6_forged_34 : decode cX6_forged 34 = .ok (.goto (-30), 3) := by decide +kernel
theorem dX6_forged_37 : decode cX6_forged 37 = .ok (.iload_n 1, 1) := by decide +kernel
theorem dX6_forged_38 : decode cX6_forged 38 = .ok (.ireturn, 1) := by decide +kernel
theorem dX6_isForged_0 : decode cX6_isForged 0 = .ok (.aload_n 0, 1) := by decide +kernel
theorem dX6_isForged_1 : decode cX6_isForged 1 = .ok (.getfield 7, 3) := by decide +kernel
theorem dX6_isForged_4 : decode cX6_isForged 4 = .ok (.sipush 222, 3) := by decide +kernel
theorem dX6_isForged_7 : decode cX6_isForged 7 = .ok (.iconst 5, 1) := by decide +kernel
theorem dX6_isForged_8 : decode cX6_isForged 8 = .ok (.iload_n 1, 1) := by decide +kernel
theorem dX6_isForged_9 : decode cX6_isForged 9 = .ok (.imul, 1) := by decide +kernel
theorem dX6_isForged_10 : decode cX6_isForged 10 = .ok (.iadd, 1) := by decide +kernel
theorem dX6_isForged_11 : decode cX6_isForged 11 = .ok (.iconst 2, 1) := by decide +kernel
theorem dX6_isForged_12 : decode cX6_isForged 12 = .ok (.iadd, 1) := by decide +kernel
theorem dX6_isForged_13 : decode cX6_isForged 13 = .ok (.iaload, 1) := by decide +kernel
theorem dX6_isForged_14 : decode cX6_isForged 14 = .ok (.aload_n 0, 1) := by decide +kernel
theorem dX6_isForged_15 : decode cX6_isForged 15 = .ok (.getfield 7, 3) := by decide +kernel
theorem dX6_isForged_18 : decode cX6_isForged 18 = .ok (.sipush 222, 3) := by decide +kernel
theorem dX6_isForged_21 : decode cX6_isForged 21 = .ok (.iconst 5, 1) := by decide +kernel
theorem dX6_isForged_22 : decode cX6_isForged 22 = .ok (.iload_n 1, 1) := by decide +kernel
theorem dX6_isForged_23 : decode cX6_isForged 23 = .ok (.imul, 1) := by decide +kernel
theorem dX6_isForged_24 : decode cX6_isForged 24 = .ok (.iadd, 1) := by decide +kernel
theorem dX6_isForged_25 : decode cX6_isForged 25 = .ok (.iconst 3, 1) := by decide +kernel
theorem dX6_isForged_26 : decode cX6_isForged 26 = .ok (.iadd, 1) := by decide +kernel
theorem dX6_isForged_27 : decode cX6_isForged 27 = .ok (.iaload, 1) := by decide +kernel
theorem dX6_isForged_28 : decode cX6_isForged 28 = .ok (.if_icmp .eq 7, 3) := by decide +kernel
theorem dX6_isForged_31 : decode cX6_isForged 31 = .ok (.iconst 1, 1) := by decide +kernel
theorem dX6_isForged_32 : decode cX6_isForged 32 = .ok (.goto 4, 3) := by decide +kernel
theorem dX6_isForged_35 : decode cX6_isForged 35 = .ok (.iconst 0, 1) := by decide +kernel
theorem dX6_isForged_36 : decode cX6_isForged 36 = .ok (.ireturn, 1) := by decide +kernel
set_option maxRecDepth 20000 in
theorem ggX6_count_X6_present : GoodIn wsX6_count wsX6_present := goodIn_r _ [8, 1, 21, 22, 23, 24, 25, 26, 27, 28, 29] (by decide +kernel) (by decide +kernel)
set_option maxRecDepth 20000 in
theorem gX6_count_X6_present : GoodIn wsX6_count (wsV RX6 62 RX6 yX6_present wsX6_present) := goodIn_app (goodIn_of _ (by decide +kernel)) ggX6_count_X6_present
set_option maxRecDepth 20000 in
theorem ggX6_count_X6_goesOn : GoodIn wsX6_count wsX6_goesOn := goodIn_r _ [12, 1, 21, 22, 23, 24, 25, 26, 27, 28, 29] (by decide +kernel) (by decide +kernel)
set_option maxRecDepth 20000 in
theorem gX6_count_X6_goesOn : GoodIn wsX6_count (wsV RX6 30 RX6 yX6_goesOn wsX6_goesOn) := goodIn_app (goodIn_of _ (by decide +kernel)) ggX6_count_X6_goesOn
set_option maxRecDepth 20000 in
theorem ggX6_count_X6_forged : GoodIn wsX6_count wsX6_forged := goodIn_r _ [16, 1, 17, 18, 19, 7, 20, 21, 22, 23, 24, 25, 26, 27, 28, 29] (by decide +kernel) (by decide +kernel)
set_option maxRecDepth 20000 in
theorem gX6_count_X6_forged : GoodIn wsX6_count (wsV RX6 143 RX6 yX6_forged wsX6_forged) := goodIn_app (goodIn_of _ (by decide +kernel)) ggX6_count_X6_forged
theorem dX6_count_0 : decode cX6_count 0 = .ok (.iload_n 1, 1) := by decide +kernel
theorem dX6_count_1 : decode cX6_count 1 = .ok (.tableswitch 147 0 11 #[63, 70, 75, 82, 89, 96, 103, 116, 124, 132, 137, 142], 63) := by decide +kernel
theorem dX6_count_64 : decode cX6_count 64 = .ok (.aload_n 0, 1) := by decide +kernel
theorem dX6_count_65 : decode cX6_count 65 = .ok (.getfield 7, 3) := by decide +kernel
theorem dX6_count_68 : decode cX6_count 68 = .ok (.iconst 0, 1) := by decide +kernel
theorem dX6_count_69 : decode cX6_count 69 = .ok (.iaload, 1) := by decide +kernel
theorem dX6_count_70 : decode cX6_count 70 = .ok (.ireturn, 1) := by decide +kernel
theorem dX6_count_71 : decode cX6_count 71 = .ok (.aload_n 0, 1) := by decide +kernel
theorem dX6_count_72 : decode cX6_count 72 = .ok (.invokevirtual 62, 3) := by decide +kernel
theorem dX6_count_75 : decode cX6_count 75 = .ok (.ireturn, 1) := by decide +kernel
theorem dX6_count_76 : decode cX6_count 76 = .ok (.aload_n 0, 1) := by decide +kernel
theorem dX6_count_77 : decode cX6_count 77 = .ok (.getfield 7, 3) := by decide +kernel
theorem dX6_count_80 : decode cX6_count 80 = .ok (.iconst 1, 1) := by decide +kernel
theorem dX6_count_81 : decode cX6_count 81 = .ok (.iaload, 1) := by decide +kernel
theorem dX6_count_82 : decode cX6_count 82 = .ok (.ireturn, 1) := by decide +kernel
theorem dX6_count_83 : decode cX6_count 83 = .ok (.aload_n 0, 1) := by decide +kernel
theorem dX6_count_84 : decode cX6_count 84 = .ok (.getfield 7, 3) := by decide +kernel
theorem dX6_count_87 : decode cX6_count 87 = .ok (.iconst 2, 1) := by decide +kernel
theorem dX6_count_88 : decode cX6_count 88 = .ok (.iaload, 1) := by decide +kernel
theorem dX6_count_89 : decode cX6_count 89 = .ok (.ireturn, 1) := by decide +kernel
theorem dX6_count_90 : decode cX6_count 90 = .ok (.aload_n 0, 1) := by decide +kernel
theorem dX6_count_91 : decode cX6_count 91 = .ok (.getfield 7, 3) := by decide +kernel
theorem dX6_count_94 : decode cX6_count 94 = .ok (.iconst 3, 1) := by decide +kernel
theorem dX6_count_95 : decode cX6_count 95 = .ok (.iaload, 1) := by decide +kernel
theorem dX6_count_96 : decode cX6_count 96 = .ok (.ireturn, 1) := by decide +kernel
theorem dX6_count_97 : decode cX6_count 97 = .ok (.aload_n 0, 1) := by decide +kernel
theorem dX6_count_98 : decode cX6_count 98 = .ok (.getfield 7, 3) := by decide +kernel
theorem dX6_count_101 : decode cX6_count 101 = .ok (.iconst 4, 1) := by decide +kernel
theorem dX6_count_102 : decode cX6_count 102 = .ok (.iaload, 1) := by decide +kernel
theorem dX6_count_103 : decode cX6_count 103 = .ok (.ireturn, 1) := by decide +kernel
theorem dX6_count_104 : decode cX6_count 104 = .ok (.aload_n 0, 1) := by decide +kernel
theorem dX6_count_105 : decode cX6_count 105 = .ok (.invokevirtual 30, 3) := by decide +kernel
theorem dX6_count_108 : decode cX6_count 108 = .ok (.ifCond .eq 7, 3) := by decide +kernel
theorem dX6_count_111 : decode cX6_count 111 = .ok (.iconst 1, 1) := by decide +kernel
theorem dX6_count_112 : decode cX6_count 112 = .ok (.goto 4, 3) := by decide +kernel
theorem dX6_count_115 : decode cX6_count 115 = .ok (.iconst 0, 1) := by decide +kernel
theorem dX6_count_116 : decode cX6_count 116 = .ok (.ireturn, 1) := by decide +kernel
theorem dX6_count_117 : decode cX6_count 117 = .ok (.aload_n 0, 1) := by decide +kernel
theorem dX6_count_118 : decode cX6_count 118 = .ok (.getfield 7, 3) := by decide +kernel
theorem dX6_count_121 : decode cX6_count 121 = .ok (.bipush 6, 2) := by decide +kernel
theorem dX6_count_123 : decode cX6_count 123 = .ok (.iaload, 1) := by decide +kernel
theorem dX6_count_124 : decode cX6_count 124 = .ok (.ireturn, 1) := by decide +kernel
theorem dX6_count_125 : decode cX6_count 125 = .ok (.aload_n 0, 1) := by decide +kernel
theorem dX6_count_126 : decode cX6_count 126 = .ok (.getfield 7, 3) := by decide +kernel
theorem dX6_count_129 : decode cX6_count 129 = .ok (.bipush 7, 2) := by decide +kernel
theorem dX6_count_131 : decode cX6_count 131 = .ok (.iaload, 1) := by decide +kernel
theorem dX6_count_132 : decode cX6_count 132 = .ok (.ireturn, 1) := by decide +kernel
theorem dX6_count_133 : decode cX6_count 133 = .ok (.aload_n 0, 1) := by decide +kernel
theorem dX6_count_134 : decode cX6_count 134 = .ok (.invokevirtual 143, 3) := by decide +kernel
theorem dX6_count_137 : decode cX6_count 137 = .ok (.ireturn, 1) := by decide +kernel
theorem dX6_count_138 : decode cX6_count 138 = .ok (.aload_n 0, 1) := by decide +kernel
theorem dX6_count_139 : decode cX6_count 139 = .ok (.getfield 26, 3) := by decide +kernel
theorem dX6_count_142 : decode cX6_count 142 = .ok (.ireturn, 1) := by decide +kernel
theorem dX6_count_143 : decode cX6_count 143 = .ok (.aload_n 0, 1) := by decide +kernel
theorem dX6_count_144 : decode cX6_count 144 = .ok (.getfield 103, 3) := by decide +kernel
theorem dX6_count_147 : decode cX6_count 147 = .ok (.ireturn, 1) := by decide +kernel
theorem dX6_count_148 : decode cX6_count 148 = .ok (.iconst (-1), 1) := by decide +kernel
theorem dX6_count_149 : decode cX6_count 149 = .ok (.ireturn, 1) := by decide +kernel
set_option maxRecDepth 20000 in
theorem ggX6_elder_X6_in : GoodIn wsX6_elder wsX6_in := goodIn_r _ [5] (by decide +kernel) (by decide +kernel)
set_option maxRecDepth 20000 in
theorem gX6_elder_X6_in : GoodIn wsX6_elder (va_wsS RX6 58 yX6_in wsX6_in) := goodIn_app (goodIn_of _ (by decide +kernel)) ggX6_elder_X6_in
set_option maxRecDepth 20000 in
theorem ggX6_elder_X6_isSeat : GoodIn wsX6_elder wsX6_isSeat := goodIn_r _ [9, 1, 14, 15, 16, 17, 18, 19, 20, 21, 22] (by decide +kernel) (by decide +kernel)
set_option maxRecDepth 20000 in
theorem gX6_elder_X6_isSeat : GoodIn wsX6_elder (wsV RX6 78 RX6 yX6_isSeat wsX6_isSeat) := goodIn_app (goodIn_of _ (by decide +kernel)) ggX6_elder_X6_isSeat
set_option maxRecDepth 20000 in
theorem ggX6_elder_X6_goesOn : GoodIn wsX6_elder wsX6_goesOn := goodIn_r _ [13, 1, 14, 15, 16, 17, 18, 19, 20, 21, 22] (by decide +kernel) (by decide +kernel)
set_option maxRecDepth 20000 in
theorem gX6_elder_X6_goesOn : GoodIn wsX6_elder (wsV RX6 30 RX6 yX6_goesOn wsX6_goesOn) := goodIn_app (goodIn_of _ (by decide +kernel)) ggX6_elder_X6_goesOn
theorem dX6_elder_0 : decode cX6_elder 0 = .ok (.iload_n 1, 1) := by decide +kernel
theorem dX6_elder_1 : decode cX6_elder 1 = .ok (.iconst 0, 1) := by decide +kernel
theorem dX6_elder_2 : decode cX6_elder 2 = .ok (.iconst 1, 1) := by decide +kernel
theorem dX6_elder_3 : decode cX6_elder 3 = .ok (.invokestatic 58, 3) := by decide +kernel
theorem dX6_elder_6 : decode cX6_elder 6 = .ok (.ifCond .eq 11, 3) := by decide +kernel
theorem dX6_elder_9 : decode cX6_elder 9 = .ok (.aload_n 0, 1) := by decide +kernel
theorem dX6_elder_10 : decode cX6_elder 10 = .ok (.iload_n 2, 1) := by decide +kernel
theorem dX6_elder_11 : decode cX6_elder 11 = .ok (.invokevirtual 78, 3) := by decide +kernel
theorem dX6_elder_14 : decode cX6_elder 14 = .ok (.ifCond .ne 5, 3) := by decide +kernel
theorem dX6_elder_17 : decode cX6_elder 17 = .ok (.iconst (-1), 1) := by decide +kernel
theorem dX6_elder_18 : decode cX6_elder 18 = .ok (.ireturn, 1) := by decide +kernel
theorem dX6_elder_19 : decode cX6_elder 19 = .ok (.iload_n 1, 1) := by decide +kernel
theorem dX6_elder_20 : decode cX6_elder 20 = .ok (.ifCond .ne 15, 3) := by decide +kernel
theorem dX6_elder_23 : decode cX6_elder 23 = .ok (.aload_n 0, 1) := by decide +kernel
theorem dX6_elder_24 : decode cX6_elder 24 = .ok (.getfield 7, 3) := by decide +kernel
theorem dX6_elder_27 : decode cX6_elder 27 = .ok (.bipush 32, 2) := by decide +kernel
theorem dX6_elder_29 : decode cX6_elder 29 = .ok (.iload_n 2, 1) := by decide +kernel
theorem dX6_elder_30 : decode cX6_elder 30 = .ok (.iadd, 1) := by decide +kernel
theorem dX6_elder_31 : decode cX6_elder 31 = .ok (.iaload, 1) := by decide +kernel
theorem dX6_elder_32 : decode cX6_elder 32 = .ok (.goto 24, 3) := by decide +kernel
theorem dX6_elder_35 : decode cX6_elder 35 = .ok (.aload_n 0, 1) := by decide +kernel
theorem dX6_elder_36 : decode cX6_elder 36 = .ok (.invokevirtual 30, 3) := by decide +kernel
theorem dX6_elder_39 : decode cX6_elder 39 = .ok (.ifCond .eq 15, 3) := by decide +kernel
theorem dX6_elder_42 : decode cX6_elder 42 = .ok (.aload_n 0, 1) := by decide +kernel
theorem dX6_elder_43 : decode cX6_elder 43 = .ok (.getfield 7, 3) := by decide +kernel
theorem dX6_elder_46 : decode cX6_elder 46 = .ok (.bipush 37, 2) := by decide +kernel
theorem dX6_elder_48 : decode cX6_elder 48 = .ok (.iload_n 2, 1) := by decide +kernel
theorem dX6_elder_49 : decode cX6_elder 49 = .ok (.iadd, 1) := by decide +kernel
theorem dX6_elder_50 : decode cX6_elder 50 = .ok (.iaload, 1) := by decide +kernel
theorem dX6_elder_51 : decode cX6_elder 51 = .ok (.goto 5, 3) := by decide +kernel
theorem dX6_elder_54 : decode cX6_elder 54 = .ok (.bipush (-9), 2) := by decide +kernel
theorem dX6_elder_56 : decode cX6_elder 56 = .ok (.ireturn, 1) := by decide +kernel
theorem dX6_timesDrawn_0 : decode cX6_timesDrawn 0 = .ok (.iconst 0, 1) := by decide +kernel
theorem dX6_timesDrawn_1 : decode cX6_timesDrawn 1 = .ok (.istore_n 2, 1) := by decide +kernel
theorem dX6_timesDrawn_2 : decode cX6_timesDrawn 2 = .ok (.iconst 0, 1) := by decide +kernel
theorem dX6_timesDrawn_3 : decode cX6_timesDrawn 3 = .ok (.istore_n 3, 1) := by decide +kernel
theorem dX6_timesDrawn_4 : decode cX6_timesDrawn 4 = .ok (.iload_n 3, 1) := by decide +kernel
theorem dX6_timesDrawn_5 : decode cX6_timesDrawn 5 = .ok (.aload_n 0, 1) := by decide +kernel
theorem dX6_timesDrawn_6 : decode cX6_timesDrawn 6 = .ok (.getfield 7, 3) := by decide +kernel
theorem dX6_timesDrawn_9 : decode cX6_timesDrawn 9 = .ok (.bipush 7, 2) := by decide +kernel
theorem dX6_timesDrawn_11 : decode cX6_timesDrawn 11 = .ok (.iaload, 1) := by decide +kernel
theorem dX6_timesDrawn_12 : decode cX6_timesDrawn 12 = .ok (.if_icmp .ge 35, 3) := by decide +kernel
theorem dX6_timesDrawn_15 : decode cX6_timesDrawn 15 = .ok (.iload_n 2, 1) := by decide +kernel
theorem dX6_timesDrawn_16 : decode cX6_timesDrawn 16 = .ok (.aload_n 0, 1) := by decide +kernel
theorem dX6_timesDrawn_17 : decode cX6_timesDrawn 17 = .ok (.getfield 7, 3) := by decide +kernel
theorem dX6_timesDrawn_20 : decode cX6_timesDrawn 20 = .ok (.sipush 222, 3) := by decide +kernel
theorem dX6_timesDrawn_23 : decode cX6_timesDrawn 23 = .ok (.iconst 5, 1) := by decide +kernel
theorem dX6_timesDrawn_24 : decode cX6_timesDrawn 24 = .ok (.iload_n 3, 1) := by decide +kernel
theorem dX6_timesDrawn_25 : decode cX6_timesDrawn 25 = .ok (.imul, 1) := by decide +kernel
theorem dX6_timesDrawn_26 : decode cX6_timesDrawn 26 = .ok (.iadd, 1) := by decide +kernel
theorem dX6_timesDrawn_27 : decode cX6_timesDrawn 27 = .ok (.iconst 2, 1) := by decide +kernel
theorem dX6_timesDrawn_28 : decode cX6_timesDrawn 28 = .ok (.iadd, 1) := by decide +kernel
theorem dX6_timesDrawn_29 : decode cX6_timesDrawn 29 = .ok (.iaload, 1) := by decide +kernel
theorem dX6_timesDrawn_30 : decode cX6_timesDrawn 30 = .ok (.iload_n 1, 1) := by decide +kernel
theorem dX6_timesDrawn_31 : decode cX6_timesDrawn 31 = .ok (.if_icmp .ne 7, 3) := by decide +kernel
theorem dX6_timesDrawn_34 : decode cX6_timesDrawn 34 = .ok (.iconst 1, 1) := by decide +kernel
theorem dX6_timesDrawn_35 : decode cX6_timesDrawn 35 = .ok (.goto 4, 3) := by decide +kernel
theorem dX6_timesDrawn_38 : decode cX6_timesDrawn 38 = .ok (.iconst 0, 1) := by decide +kernel
theorem dX6_timesDrawn_39 : decode cX6_timesDrawn 39 = .ok (.iadd, 1) := by decide +kernel
theorem dX6_timesDrawn_40 : decode cX6_timesDrawn 40 = .ok (.istore_n 2, 1) := by decide +kernel
theorem dX6_timesDrawn_41 : decode cX6_timesDrawn 41 = .ok (.iinc 3 1, 3) := by decide +kernel
theorem dX6_timesDrawn_44 : decode cX6_timesDrawn 44 = .ok (.goto (-40), 3) := by decide +kernel
theorem dX6_timesDrawn_47 : decode cX6_timesDrawn 47 = .ok (.iload_n 2, 1) := by decide +kernel
theorem dX6_timesDrawn_48 : decode cX6_timesDrawn 48 = .ok (.ireturn, 1) := by decide +kernel
set_option maxRecDepth 20000 in
theorem ggX6_villager_X6_isVillager : GoodIn wsX6_villager wsX6_isVillager := goodIn_r _ [6, 1, 26, 27, 28, 29, 30, 31, 32, 33, 34] (by decide +kernel) (by decide +kernel)
set_option maxRecDepth 20000 in
theorem gX6_villager_X6_isVillager : GoodIn wsX6_villager (wsV RX6 55 RX6 yX6_isVillager wsX6_isVillager) := goodIn_app (goodIn_of _ (by decide +kernel)) ggX6_villager_X6_isVillager
set_option maxRecDepth 20000 in
theorem ggX6_villager_X6_in : GoodIn wsX6_villager wsX6_in := goodIn_r _ [9] (by decide +kernel) (by decide +kernel)
set_option maxRecDepth 20000 in
theorem gX6_villager_X6_in : GoodIn wsX6_villager (va_wsS RX6 58 yX6_in wsX6_in) := goodIn_app (goodIn_of _ (by decide +kernel)) ggX6_villager_X6_in
set_option maxRecDepth 20000 in
theorem ggX6_villager_X6_seatOf : GoodIn wsX6_villager wsX6_seatOf := goodIn_r _ [13, 1, 26, 27, 28, 29, 30, 31, 32, 33, 34] (by decide +kernel) (by decide +kernel)
set_option maxRecDepth 20000 in
theorem gX6_villager_X6_seatOf : GoodIn wsX6_villager (wsV RX6 34 RX6 yX6_seatOf wsX6_seatOf) := goodIn_app (goodIn_of _ (by decide +kernel)) ggX6_villager_X6_seatOf
set_option maxRecDepth 20000 in
theorem ggX6_villager_X6_newer : GoodIn wsX6_villager wsX6_newer := goodIn_r _ [17, 18, 19, 20, 5, 21, 1, 26, 27, 28, 29, 30, 31, 32, 33, 34] (by decide +kernel) (by decide +kernel)
set_option maxRecDepth 20000 in
theorem gX6_villager_X6_newer : GoodIn wsX6_villager (wsV RX6 38 RX6 yX6_newer wsX6_newer) := goodIn_app (goodIn_of _ (by decide +kernel)) ggX6_villager_X6_newer
set_option maxRecDepth 20000 in
theorem ggX6_villager_X6_timesDrawn : GoodIn wsX6_villager wsX6_timesDrawn := goodIn_r _ [25, 1, 26, 27, 28, 29, 30, 31, 32, 33, 34] (by decide +kernel) (by decide +kernel)
set_option maxRecDepth 20000 in
theorem gX6_villager_X6_timesDrawn : GoodIn wsX6_villager (wsV RX6 146 RX6 yX6_timesDrawn wsX6_timesDrawn) := goodIn_app (goodIn_of _ (by decide +kernel)) ggX6_villager_X6_timesDrawn
theorem dX6_villager_0 : decode cX6_villager 0 = .ok (.aload_n 0, 1) := by decide +kernel
theorem dX6_villager_1 : decode cX6_villager 1 = .ok (.iload_n 1, 1) := by decide +kernel
theorem dX6_villager_2 : decode cX6_villager 2 = .ok (.invokevirtual 55, 3) := by decide +kernel
theorem dX6_villager_5 : decode cX6_villager 5 = .ok (.ifCond .eq 12, 3) := by decide +kernel
theorem dX6_villager_8 : decode cX6_villager 8 = .ok (.iload_n 2, 1) := by decide +kernel
theorem dX6_villager_9 : decode cX6_villager 9 = .ok (.iconst 0, 1) := by decide +kernel
theorem dX6_villager_10 : decode cX6_villager 10 = .ok (.iconst 4, 1) := by decide +kernel
theorem dX6_villager_11 : decode cX6_villager 11 = .ok (.invokestatic 58, 3) := by decide +kernel
theorem dX6_villager_14 : decode cX6_villager 14 = .ok (.ifCond .ne 5, 3) := by decide +kernel
theorem dX6_villager_17 : decode cX6_villager 17 = .ok (.iconst (-1), 1) := by decide +kernel
theorem dX6_villager_18 : decode cX6_villager 18 = .ok (.ireturn, 1) := by decide +kernel
theorem dX6_villager_19 : decode cX6_villager 19 = .ok (.iload_n 2, 1) := by decide +kernel
theorem dX6_villager_20 : decode cX6_villager 20 = .ok (.tableswitch 70 0 3 #[32, 42, 52, 60], 32) := by decide +kernel
theorem dX6_villager_52 : decode cX6_villager 52 = .ok (.aload_n 0, 1) := by decide +kernel
theorem dX6_villager_53 : decode cX6_villager 53 = .ok (.getfield 7, 3) := by decide +kernel
theorem dX6_villager_56 : decode cX6_villager 56 = .ok (.bipush 8, 2) := by decide +kernel
theorem dX6_villager_58 : decode cX6_villager 58 = .ok (.iload_n 1, 1) := by decide +kernel
theorem dX6_villager_59 : decode cX6_villager 59 = .ok (.iadd, 1) := by decide +kernel
theorem dX6_villager_60 : decode cX6_villager 60 = .ok (.iaload, 1) := by decide +kernel
theorem dX6_villager_61 : decode cX6_villager 61 = .ok (.ireturn, 1) := by decide +kernel
theorem dX6_villager_62 : decode cX6_villager 62 = .ok (.aload_n 0, 1) := by decide +kernel
theorem dX6_villager_63 : decode cX6_villager 63 = .ok (.getfield 7, 3) := by decide +kernel
theorem dX6_villager_66 : decode cX6_villager 66 = .ok (.bipush 20, 2) := by decide +kernel
theorem dX6_villager_68 : decode cX6_villager 68 = .ok (.iload_n 1, 1) := by decide +kernel
theorem dX6_villager_69 : decode cX6_villager 69 = .ok (.iadd, 1) := by decide +kernel
theorem dX6_villager_70 : decode cX6_villager 70 = .ok (.iaload, 1) := by decide +kernel
theorem dX6_villager_71 : decode cX6_villager 71 = .ok (.ireturn, 1) := by decide +kernel
theorem dX6_villager_72 : decode cX6_villager 72 = .ok (.aload_n 0, 1) := by decide +kernel
theorem dX6_villager_73 : decode cX6_villager 73 = .ok (.bipush 32, 2) := by decide +kernel
theorem dX6_villager_75 : decode cX6_villager 75 = .ok (.iload_n 1, 1) := by decide +kernel
theorem dX6_villager_76 : decode cX6_villager 76 = .ok (.invokevirtual 34, 3) := by decide +kernel
theorem dX6_villager_79 : decode cX6_villager 79 = .ok (.ireturn, 1) := by decide +kernel
theorem dX6_villager_80 : decode cX6_villager 80 = .ok (.aload_n 0, 1) := by decide +kernel
theorem dX6_villager_81 : decode cX6_villager 81 = .ok (.aload_n 0, 1) := by decide +kernel
theorem dX6_villager_82 : decode cX6_villager 82 = .ok (.invokevirtual 38, 3) := by decide +kernel
theorem dX6_villager_85 : decode cX6_villager 85 = .ok (.iload_n 1, 1) := by decide +kernel
theorem dX6_villager_86 : decode cX6_villager 86 = .ok (.invokevirtual 34, 3) := by decide +kernel
theorem dX6_villager_89 : decode cX6_villager 89 = .ok (.ireturn, 1) := by decide +kernel
theorem dX6_villager_90 : decode cX6_villager 90 = .ok (.aload_n 0, 1) := by decide +kernel
theorem dX6_villager_91 : decode cX6_villager 91 = .ok (.iload_n 1, 1) := by decide +kernel
theorem dX6_villager_92 : decode cX6_villager 92 = .ok (.invokevirtual 146, 3) := by decide +kernel
theorem dX6_villager_95 : decode cX6_villager 95 = .ok (.ireturn, 1) := by decide +kernel
theorem dX6_copies_0 : decode cX6_copies 0 = .ok (.iconst 0, 1) := by decide +kernel
theorem dX6_copies_1 : decode cX6_copies 1 = .ok (.istore_n 2, 1) := by decide +kernel
theorem dX6_copies_2 : decode cX6_copies 2 = .ok (.iconst 0, 1) := by decide +kernel
theorem dX6_copies_3 : decode cX6_copies 3 = .ok (.istore_n 3, 1) := by decide +kernel
theorem dX6_copies_4 : decode cX6_copies 4 = .ok (.iload_n 3, 1) := by decide +kernel
theorem dX6_copies_5 : decode cX6_copies 5 = .ok (.aload_n 0, 1) := by decide +kernel
theorem dX6_copies_6 : decode cX6_copies 6 = .ok (.getfield 7, 3) := by decide +kernel
theorem dX6_copies_9 : decode cX6_copies 9 = .ok (.iconst 0, 1) := by decide +kernel
theorem dX6_copies_10 : decode cX6_copies 10 = .ok (.iaload, 1) := by decide +kernel
theorem dX6_copies_11 : decode cX6_copies 11 = .ok (.if_icmp .ge 30, 3) := by decide +kernel
theorem dX6_copies_14 : decode cX6_copies 14 = .ok (.iload_n 2, 1) := by decide +kernel
theorem dX6_copies_15 : decode cX6_copies 15 = .ok (.aload_n 0, 1) := by decide +kernel
theorem dX6_copies_16 : decode cX6_copies 16 = .ok (.getfield 7, 3) := by decide +kernel
theorem dX6_copies_19 : decode cX6_copies 19 = .ok (.bipush 20, 2) := by decide +kernel
theorem dX6_copies_21 : decode cX6_copies 21 = .ok (.iload_n 3, 1) := by decide +kernel
theorem dX6_copies_22 : decode cX6_copies 22 = .ok (.iadd, 1) := by decide +kernel
theorem dX6_copies_23 : decode cX6_copies 23 = .ok (.iaload, 1) := by decide +kernel
theorem dX6_copies_24 : decode cX6_copies 24 = .ok (.iload_n 1, 1) := by decide +kernel
theorem dX6_copies_25 : decode cX6_copies 25 = .ok (.if_icmp .le 7, 3) := by decide +kernel
theorem dX6_copies_28 : decode cX6_copies 28 = .ok (.iconst 1, 1) := by decide +kernel
theorem dX6_copies_29 : decode cX6_copies 29 = .ok (.goto 4, 3) := by decide +kernel
theorem dX6_copies_32 : decode cX6_copies 32 = .ok (.iconst 0, 1) := by decide +kernel
theorem dX6_copies_33 : decode cX6_copies 33 = .ok (.iadd, 1) := by decide +kernel
theorem dX6_copies_34 : decode cX6_copies 34 = .ok (.istore_n 2, 1) := by decide +kernel
theorem dX6_copies_35 : decode cX6_copies 35 = .ok (.iinc 3 1, 3) := by decide +kernel
theorem dX6_copies_38 : decode cX6_copies 38 = .ok (.goto (-34), 3) := by decide +kernel
theorem dX6_copies_41 : decode cX6_copies 41 = .ok (.iload_n 2, 1) := by decide +kernel
theorem dX6_copies_42 : decode cX6_copies 42 = .ok (.ireturn, 1) := by decide +kernel
set_option maxRecDepth 20000 in
theorem ggX6_entry_X6_isEntry : GoodIn wsX6_entry wsX6_isEntry := goodIn_r _ [6, 1, 26, 27, 28, 29, 30, 31, 32, 33, 34] (by decide +kernel) (by decide +kernel)
set_option maxRecDepth 20000 in
theorem gX6_entry_X6_isEntry : GoodIn wsX6_entry (wsV RX6 100 RX6 yX6_isEntry wsX6_isEntry) := goodIn_app (goodIn_of _ (by decide +kernel)) ggX6_entry_X6_isEntry
set_option maxRecDepth 20000 in
theorem ggX6_entry_X6_in : GoodIn wsX6_entry wsX6_in := goodIn_r _ [9] (by decide +kernel) (by decide +kernel)
set_option maxRecDepth 20000 in
theorem gX6_entry_X6_in : GoodIn wsX6_entry (va_wsS RX6 58 yX6_in wsX6_in) := goodIn_app (goodIn_of _ (by decide +kernel)) ggX6_entry_X6_in
set_option maxRecDepth 20000 in
theorem ggX6_entry_X6_copies : GoodIn wsX6_entry wsX6_copies := goodIn_r _ [13, 1, 26, 27, 28, 29, 30, 31, 32, 33, 34] (by decide +kernel) (by decide +kernel)
set_option maxRecDepth 20000 in
theorem gX6_entry_X6_copies : GoodIn wsX6_entry (wsV RX6 149 RX6 yX6_copies wsX6_copies) := goodIn_app (goodIn_of _ (by decide +kernel)) ggX6_entry_X6_copies
set_option maxRecDepth 20000 in
theorem ggX6_entry_X6_having : GoodIn wsX6_entry wsX6_having := goodIn_r _ [17, 1, 26, 27, 28, 29, 30, 31, 32, 33, 34] (by decide +kernel) (by decide +kernel)
set_option maxRecDepth 20000 in
theorem gX6_entry_X6_having : GoodIn wsX6_entry (wsV RX6 42 RX6 yX6_having wsX6_having) := goodIn_app (goodIn_of _ (by decide +kernel)) ggX6_entry_X6_having
set_option maxRecDepth 20000 in
theorem ggX6_entry_X6_newer : GoodIn wsX6_entry wsX6_newer := goodIn_r _ [21, 22, 23, 24, 5, 25, 1, 26, 27, 28, 29, 30, 31, 32, 33, 34] (by decide +kernel) (by decide +kernel)
set_option maxRecDepth 20000 in
theorem gX6_entry_X6_newer : GoodIn wsX6_entry (wsV RX6 38 RX6 yX6_newer wsX6_newer) := goodIn_app (goodIn_of _ (by decide +kernel)) ggX6_entry_X6_newer
theorem dX6_entry_0 : decode cX6_entry 0 = .ok (.aload_n 0, 1) := by decide +kernel
theorem dX6_entry_1 : decode cX6_entry 1 = .ok (.iload_n 1, 1) := by decide +kernel
theorem dX6_entry_2 : decode cX6_entry 2 = .ok (.invokevirtual 100, 3) := by decide +kernel
theorem dX6_entry_5 : decode cX6_entry 5 = .ok (.ifCond .eq 13, 3) := by decide +kernel
theorem dX6_entry_8 : decode cX6_entry 8 = .ok (.iload_n 2, 1) := by decide +kernel
theorem dX6_entry_9 : decode cX6_entry 9 = .ok (.iconst 0, 1) := by decide +kernel
theorem dX6_entry_10 : decode cX6_entry 10 = .ok (.bipush 6, 2) := by decide +kernel
theorem dX6_entry_12 : decode cX6_entry 12 = .ok (.invokestatic 58, 3) := by decide +kernel
theorem dX6_entry_15 : decode cX6_entry 15 = .ok (.ifCond .ne 5, 3) := by decide +kernel
theorem dX6_entry_18 : decode cX6_entry 18 = .ok (.iconst (-1), 1) := by decide +kernel
theorem dX6_entry_19 : decode cX6_entry 19 = .ok (.ireturn, 1) := by decide +kernel
theorem dX6_entry_20 : decode cX6_entry 20 = .ok (.iload_n 2, 1) := by decide +kernel
theorem dX6_entry_21 : decode cX6_entry 21 = .ok (.tableswitch 89 2 6 #[35, 51, 57, 71, 79], 35) := by decide +kernel
theorem dX6_entry_56 : decode cX6_entry 56 = .ok (.iload_n 1, 1) := by decide +kernel
theorem dX6_entry_57 : decode cX6_entry 57 = .ok (.aload_n 0, 1) := by decide +kernel
theorem dX6_entry_58 : decode cX6_entry 58 = .ok (.getfield 7, 3) := by decide +kernel
theorem dX6_entry_61 : decode cX6_entry 61 = .ok (.iconst 4, 1) := by decide +kernel
theorem dX6_entry_62 : decode cX6_entry 62 = .ok (.iaload, 1) := by decide +kernel
theorem dX6_entry_63 : decode cX6_entry 63 = .ok (.if_icmp .ge 7, 3) := by decide +kernel
theorem dX6_entry_66 : decode cX6_entry 66 = .ok (.iconst 1, 1) := by decide +kernel
theorem dX6_entry_67 : decode cX6_entry 67 = .ok (.goto 4, 3) := by decide +kernel
theorem dX6_entry_70 : decode cX6_entry 70 = .ok (.iconst 0, 1) := by decide +kernel
theorem dX6_entry_71 : decode cX6_entry 71 = .ok (.ireturn, 1) := by decide +kernel
theorem dX6_entry_72 : decode cX6_entry 72 = .ok (.aload_n 0, 1) := by decide +kernel
theorem dX6_entry_73 : decode cX6_entry 73 = .ok (.iload_n 1, 1) := by decide +kernel
theorem dX6_entry_74 : decode cX6_entry 74 = .ok (.invokevirtual 149, 3) := by decide +kernel
theorem dX6_entry_77 : decode cX6_entry 77 = .ok (.ireturn, 1) := by decide +kernel
theorem dX6_entry_78 : decode cX6_entry 78 = .ok (.aload_n 0, 1) := by decide +kernel
theorem dX6_entry_79 : decode cX6_entry 79 = .ok (.getfield 7, 3) := by decide +kernel
theorem dX6_entry_82 : decode cX6_entry 82 = .ok (.bipush 42, 2) := by decide +kernel
theorem dX6_entry_84 : decode cX6_entry 84 = .ok (.iconst 3, 1) := by decide +kernel
theorem dX6_entry_85 : decode cX6_entry 85 = .ok (.iload_n 1, 1) := by decide +kernel
theorem dX6_entry_86 : decode cX6_entry 86 = .ok (.imul, 1) := by decide +kernel
theorem dX6_entry_87 : decode cX6_entry 87 = .ok (.iadd, 1) := by decide +kernel
theorem dX6_entry_88 : decode cX6_entry 88 = .ok (.iconst 2, 1) := by decide +kernel
theorem dX6_entry_89 : decode cX6_entry 89 = .ok (.iadd, 1) := by decide +kernel
theorem dX6_entry_90 : decode cX6_entry 90 = .ok (.iaload, 1) := by decide +kernel
theorem dX6_entry_91 : decode cX6_entry 91 = .ok (.ireturn, 1) := by decide +kernel
theorem dX6_entry_92 : decode cX6_entry 92 = .ok (.aload_n 0, 1) := by decide +kernel
theorem dX6_entry_93 : decode cX6_entry 93 = .ok (.bipush 32, 2) := by decide +kernel
theorem dX6_entry_95 : decode cX6_entry 95 = .ok (.iload_n 1, 1) := by decide +kernel
theorem dX6_entry_96 : decode cX6_entry 96 = .ok (.invokevirtual 42, 3) := by decide +kernel
theorem dX6_entry_99 : decode cX6_entry 99 = .ok (.ireturn, 1) := by decide +kernel
theorem dX6_entry_100 : decode cX6_entry 100 = .ok (.aload_n 0, 1) := by decide +kernel
theorem dX6_entry_101 : decode cX6_entry 101 = .ok (.aload_n 0, 1) := by decide +kernel
theorem dX6_entry_102 : decode cX6_entry 102 = .ok (.invokevirtual 38, 3) := by decide +kernel
theorem dX6_entry_105 : decode cX6_entry 105 = .ok (.iload_n 1, 1) := by decide +kernel
theorem dX6_entry_106 : decode cX6_entry 106 = .ok (.invokevirtual 42, 3) := by decide +kernel
theorem dX6_entry_109 : decode cX6_entry 109 = .ok (.ireturn, 1) := by decide +kernel
theorem dX6_entry_110 : decode cX6_entry 110 = .ok (.aload_n 0, 1) := by decide +kernel
theorem dX6_entry_111 : decode cX6_entry 111 = .ok (.getfield 7, 3) := by decide +kernel
theorem dX6_entry_114 : decode cX6_entry 114 = .ok (.bipush 42, 2) := by decide +kernel
theorem dX6_entry_116 : decode cX6_entry 116 = .ok (.iconst 3, 1) := by decide +kernel
theorem dX6_entry_117 : decode cX6_entry 117 = .ok (.iload_n 1, 1) := by decide +kernel
theorem dX6_entry_118 : decode cX6_entry 118 = .ok (.imul, 1) := by decide +kernel
theorem dX6_entry_119 : decode cX6_entry 119 = .ok (.iadd, 1) := by decide +kernel
theorem dX6_entry_120 : decode cX6_entry 120 = .ok (.iload_n 2, 1) := by decide +kernel
theorem dX6_entry_121 : decode cX6_entry 121 = .ok (.iadd, 1) := by decide +kernel
theorem dX6_entry_122 : decode cX6_entry 122 = .ok (.iaload, 1) := by decide +kernel
theorem dX6_entry_123 : decode cX6_entry 123 = .ok (.ireturn, 1) := by decide +kernel
set_option maxRecDepth 20000 in
theorem ggX6_draw_X6_in : GoodIn wsX6_draw wsX6_in := goodIn_r _ [5] (by decide +kernel) (by decide +kernel)
set_option maxRecDepth 20000 in
theorem gX6_draw_X6_in : GoodIn wsX6_draw (va_wsS RX6 58 yX6_in wsX6_in) := goodIn_app (goodIn_of _ (by decide +kernel)) ggX6_draw_X6_in
set_option maxRecDepth 20000 in
theorem ggX6_draw_X6_isForged : GoodIn wsX6_draw wsX6_isForged := goodIn_r _ [9, 1, 10, 11, 12, 13, 14, 15, 16, 17, 18] (by decide +kernel) (by decide +kernel)
set_option maxRecDepth 20000 in
theorem gX6_draw_X6_isForged : GoodIn wsX6_draw (wsV RX6 140 RX6 yX6_isForged wsX6_isForged) := goodIn_app (goodIn_of _ (by decide +kernel)) ggX6_draw_X6_isForged
theorem dX6_draw_0 : decode cX6_draw 0 = .ok (.iload_n 1, 1) := by decide +kernel
theorem dX6_draw_1 : decode cX6_draw 1 = .ok (.ifCond .lt 23, 3) := by decide +kernel
theorem dX6_draw_4 : decode cX6_draw 4 = .ok (.iload_n 1, 1) := by decide +kernel
theorem dX6_draw_5 : decode cX6_draw 5 = .ok (.aload_n 0, 1) := by decide +kernel
theorem dX6_draw_6 : decode cX6_draw 6 = .ok (.getfield 7, 3) := by decide +kernel
theorem dX6_draw_9 : decode cX6_draw 9 = .ok (.bipush 7, 2) := by decide +kernel
theorem dX6_draw_11 : decode cX6_draw 11 = .ok (.iaload, 1) := by decide +kernel
theorem dX6_draw_12 : decode cX6_draw 12 = .ok (.if_icmp .ge 12, 3) := by decide +kernel
theorem dX6_draw_15 : decode cX6_draw 15 = .ok (.iload_n 2, 1) := by decide +kernel
theorem dX6_draw_16 : decode cX6_draw 16 = .ok (.iconst 0, 1) := by decide +kernel
theorem dX6_draw_17 : decode cX6_draw 17 = .ok (.iconst 4, 1) := by decide +kernel
theorem dX6_draw_18 : decode cX6_draw 18 = .ok (.invokestatic 58, 3) := by decide +kernel
theorem dX6_draw_21 : decode cX6_draw 21 = .ok (.ifCond .ne 5, 3) := by decide +kernel
theorem dX6_draw_24 : decode cX6_draw 24 = .ok (.iconst (-1), 1) := by decide +kernel
theorem dX6_draw_25 : decode cX6_draw 25 = .ok (.ireturn, 1) := by decide +kernel
theorem dX6_draw_26 : decode cX6_draw 26 = .ok (.iload_n 2, 1) := by decide +kernel
theorem dX6_draw_27 : decode cX6_draw 27 = .ok (.iconst 3, 1) := by decide +kernel
theorem dX6_draw_28 : decode cX6_draw 28 = .ok (.if_icmp .ne 19, 3) := by decide +kernel
theorem dX6_draw_31 : decode cX6_draw 31 = .ok (.aload_n 0, 1) := by decide +kernel
theorem dX6_draw_32 : decode cX6_draw 32 = .ok (.iload_n 1, 1) := by decide +kernel
theorem dX6_draw_33 : decode cX6_draw 33 = .ok (.invokevirtual 140, 3) := by decide +kernel
theorem dX6_draw_36 : decode cX6_draw 36 = .ok (.ifCond .eq 7, 3) := by decide +kernel
theorem dX6_draw_39 : decode cX6_draw 39 = .ok (.iconst 1, 1) := by decide +kernel
theorem dX6_draw_40 : decode cX6_draw 40 = .ok (.goto 21, 3) := by decide +kernel
theorem dX6_draw_43 : decode cX6_draw 43 = .ok (.iconst 0, 1) := by decide +kernel
theorem dX6_draw_44 : decode cX6_draw 44 = .ok (.goto 17, 3) := by decide +kernel
theorem dX6_draw_47 : decode cX6_draw 47 = .ok (.aload_n 0, 1) := by decide +kernel
theorem dX6_draw_48 : decode cX6_draw 48 = .ok (.getfield 7, 3) := by decide +kernel
theorem dX6_draw_51 : decode cX6_draw 51 = .ok (.sipush 222, 3) := by decide +kernel
theorem dX6_draw_54 : decode cX6_draw 54 = .ok (.iconst 5, 1) := by decide +kernel
theorem dX6_draw_55 : decode cX6_draw 55 = .ok (.iload_n 1, 1) := by decide +kernel
theorem dX6_draw_56 : decode cX6_draw 56 = .ok (.imul, 1) := by decide +kernel
theorem dX6_draw_57 : decode cX6_draw 57 = .ok (.iadd, 1) := by decide +kernel
theorem dX6_draw_58 : decode cX6_draw 58 = .ok (.iload_n 2, 1) := by decide +kernel
theorem dX6_draw_59 : decode cX6_draw 59 = .ok (.iadd, 1) := by decide +kernel
theorem dX6_draw_60 : decode cX6_draw 60 = .ok (.iaload, 1) := by decide +kernel
theorem dX6_draw_61 : decode cX6_draw 61 = .ok (.ireturn, 1) := by decide +kernel
theorem dX6_fewest_0 : decode cX6_fewest 0 = .ok (.iload_n 0, 1) := by decide +kernel
theorem dX6_fewest_1 : decode cX6_fewest 1 = .ok (.iload_n 1, 1) := by decide +kernel
theorem dX6_fewest_2 : decode cX6_fewest 2 = .ok (.if_icmp .le 7, 3) := by decide +kernel
theorem dX6_fewest_5 : decode cX6_fewest 5 = .ok (.iload_n 0, 1) := by decide +kernel
theorem dX6_fewest_6 : decode cX6_fewest 6 = .ok (.goto 4, 3) := by decide +kernel
theorem dX6_fewest_9 : decode cX6_fewest 9 = .ok (.iload_n 1, 1) := by decide +kernel
theorem dX6_fewest_10 : decode cX6_fewest 10 = .ok (.istore_n 3, 1) := by decide +kernel
theorem dX6_fewest_11 : decode cX6_fewest 11 = .ok (.iload_n 3, 1) := by decide +kernel
theorem dX6_fewest_12 : decode cX6_fewest 12 = .ok (.iload_n 2, 1) := by decide +kernel
theorem dX6_fewest_13 : decode cX6_fewest 13 = .ok (.if_icmp .ge 7, 3) := by decide +kernel
theorem dX6_fewest_16 : decode cX6_fewest 16 = .ok (.iload_n 3, 1) := by decide +kernel
theorem dX6_fewest_17 : decode cX6_fewest 17 = .ok (.goto 4, 3) := by decide +kernel
theorem dX6_fewest_20 : decode cX6_fewest 20 = .ok (.iload_n 2, 1) := by decide +kernel
theorem dX6_fewest_21 : decode cX6_fewest 21 = .ok (.istore 4, 2) := by decide +kernel
theorem dX6_fewest_23 : decode cX6_fewest 23 = .ok (.iload 4, 2) := by decide +kernel
theorem dX6_fewest_25 : decode cX6_fewest 25 = .ok (.ifCond .ge 7, 3) := by decide +kernel
theorem dX6_fewest_28 : decode cX6_fewest 28 = .ok (.iconst 0, 1) := by decide +kernel
theorem dX6_fewest_29 : decode cX6_fewest 29 = .ok (.goto 5, 3) := by decide +kernel
theorem dX6_fewest_32 : decode cX6_fewest 32 = .ok (.iload 4, 2) := by decide +kernel
theorem dX6_fewest_34 : decode cX6_fewest 34 = .ok (.istore 4, 2) := by decide +kernel
theorem dX6_fewest_36 : decode cX6_fewest 36 = .ok (.iload 4, 2) := by decide +kernel
theorem dX6_fewest_38 : decode cX6_fewest 38 = .ok (.iload_n 0, 1) := by decide +kernel
theorem dX6_fewest_39 : decode cX6_fewest 39 = .ok (.iload 4, 2) := by decide +kernel
theorem dX6_fewest_41 : decode cX6_fewest 41 = .ok (.if_icmp .le 10, 3) := by decide +kernel
theorem dX6_fewest_44 : decode cX6_fewest 44 = .ok (.iload_n 0, 1) := by decide +kernel
theorem dX6_fewest_45 : decode cX6_fewest 45 = .ok (.iload 4, 2) := by decide +kernel
theorem dX6_fewest_47 : decode cX6_fewest 47 = .ok (.isub, 1) := by decide +kernel
theorem dX6_fewest_48 : decode cX6_fewest 48 = .ok (.goto 4, 3) := by decide +kernel
theorem dX6_fewest_51 : decode cX6_fewest 51 = .ok (.iconst 0, 1) := by decide +kernel
theorem dX6_fewest_52 : decode cX6_fewest 52 = .ok (.iadd, 1) := by decide +kernel
theorem dX6_fewest_53 : decode cX6_fewest 53 = .ok (.iload_n 1, 1) := by decide +kernel
theorem dX6_fewest_54 : decode cX6_fewest 54 = .ok (.iload 4, 2) := by decide +kernel
theorem dX6_fewest_56 : decode cX6_fewest 56 = .ok (.if_icmp .le 10, 3) := by decide +kernel
theorem dX6_fewest_59 : decode cX6_fewest 59 = .ok (.iload_n 1, 1) := by decide +kernel
theorem dX6_fewest_60 : decode cX6_fewest 60 = .ok (.iload 4, 2) := by decide +kernel
theorem dX6_fewest_62 : decode cX6_fewest 62 = .ok (.isub, 1) := by decide +kernel
theorem dX6_fewest_63 : decode cX6_fewest 63 = .ok (.goto 4, 3) := by decide +kernel
theorem dX6_fewest_66 : decode cX6_fewest 66 = .ok (.iconst 0, 1) := by decide +kernel
theorem dX6_fewest_67 : decode cX6_fewest 67 = .ok (.iadd, 1) := by decide +kernel
theorem dX6_fewest_68 : decode cX6_fewest 68 = .ok (.ireturn, 1) := by decide +kernel
set_option maxRecDepth 20000 in
theorem ggX6_missing_X6_isEntry : GoodIn wsX6_missing wsX6_isEntry := goodIn_r _ [6, 1, 22, 23, 24, 25, 26, 27, 28, 29, 30] (by decide +kernel) (by decide +kernel)
set_option maxRecDepth 20000 in
theorem gX6_missing_X6_isEntry : GoodIn wsX6_missing (wsV RX6 100 RX6 yX6_isEntry wsX6_isEntry) := goodIn_app (goodIn_of _ (by decide +kernel)) ggX6_missing_X6_isEntry
set_option maxRecDepth 20000 in
theorem ggX6_missing_X6_newer : GoodIn wsX6_missing wsX6_newer := goodIn_r _ [10, 11, 12, 13, 5, 14, 1, 22, 23, 24, 25, 26, 27, 28, 29, 30] (by decide +kernel) (by decide +kernel)
set_option maxRecDepth 20000 in
theorem gX6_missing_X6_newer : GoodIn wsX6_missing (wsV RX6 38 RX6 yX6_newer wsX6_newer) := goodIn_app (goodIn_of _ (by decide +kernel)) ggX6_missing_X6_newer
set_option maxRecDepth 20000 in
theorem ggX6_missing_X6_having : GoodIn wsX6_missing wsX6_having := goodIn_r _ [18, 1, 22, 23, 24, 25, 26, 27, 28, 29, 30] (by decide +kernel) (by decide +kernel)
set_option maxRecDepth 20000 in
theorem gX6_missing_X6_having : GoodIn wsX6_missing (wsV RX6 42 RX6 yX6_having wsX6_having) := goodIn_app (goodIn_of _ (by decide +kernel)) ggX6_missing_X6_having
set_option maxRecDepth 20000 in
theorem ggX6_missing_X6_goesOn : GoodIn wsX6_missing wsX6_goesOn := goodIn_r _ [14, 1, 22, 23, 24, 25, 26, 27, 28, 29, 30] (by decide +kernel) (by decide +kernel)
set_option maxRecDepth 20000 in
theorem gX6_missing_X6_goesOn : GoodIn wsX6_missing (wsV RX6 30 RX6 yX6_goesOn wsX6_goesOn) := goodIn_app (goodIn_of _ (by decide +kernel)) ggX6_missing_X6_goesOn
set_option maxRecDepth 20000 in
theorem ggX6_missing_X6_fewest : GoodIn wsX6_missing wsX6_fewest := goodIn_r _ [21] (by decide +kernel) (by decide +kernel)
set_option maxRecDepth 20000 in
theorem gX6_missing_X6_fewest : GoodIn wsX6_missing (va_wsS RX6 152 yX6_fewest wsX6_fewest) := goodIn_app (goodIn_of _ (by decide +kernel)) ggX6_missing_X6_fewest
theorem dX6_missing_0 : decode cX6_missing 0 = .ok (.aload_n 0, 1) := by decide +kernel
theorem dX6_missing_1 : decode cX6_missing 1 = .ok (.iload_n 1, 1) := by decide +kernel
theorem dX6_missing_2 : decode cX6_missing 2 = .ok (.invokevirtual 100, 3) := by decide +kernel
theorem dX6_missing_5 : decode cX6_missing 5 = .ok (.ifCond .ne 5, 3) := by decide +kernel
theorem dX6_missing_8 : decode cX6_missing 8 = .ok (.iconst (-1), 1) := by decide +kernel
theorem dX6_missing_9 : decode cX6_missing 9 = .ok (.ireturn, 1) := by decide +kernel
theorem dX6_missing_10 : decode cX6_missing 10 = .ok (.iload_n 1, 1) := by decide +kernel
theorem dX6_missing_11 : decode cX6_missing 11 = .ok (.aload_n 0, 1) := by decide +kernel
theorem dX6_missing_12 : decode cX6_missing 12 = .ok (.getfield 7, 3) := by decide +kernel
theorem dX6_missing_15 : decode cX6_missing 15 = .ok (.iconst 4, 1) := by decide +kernel
theorem dX6_missing_16 : decode cX6_missing 16 = .ok (.iaload, 1) := by decide +kernel
theorem dX6_missing_17 : decode cX6_missing 17 = .ok (.if_icmp .ge 5, 3) := by decide +kernel
theorem dX6_missing_20 : decode cX6_missing 20 = .ok (.iconst 0, 1) := by decide +kernel
theorem dX6_missing_21 : decode cX6_missing 21 = .ok (.ireturn, 1) := by decide +kernel
theorem dX6_missing_22 : decode cX6_missing 22 = .ok (.aload_n 0, 1) := by decide +kernel
theorem dX6_missing_23 : decode cX6_missing 23 = .ok (.getfield 7, 3) := by decide +kernel
theorem dX6_missing_26 : decode cX6_missing 26 = .ok (.iconst 1, 1) := by decide +kernel
theorem dX6_missing_27 : decode cX6_missing 27 = .ok (.iaload, 1) := by decide +kernel
theorem dX6_missing_28 : decode cX6_missing 28 = .ok (.iconst 2, 1) := by decide +kernel
theorem dX6_missing_29 : decode cX6_missing 29 = .ok (.idiv, 1) := by decide +kernel
theorem dX6_missing_30 : decode cX6_missing 30 = .ok (.iconst 1, 1) := by decide +kernel
theorem dX6_missing_31 : decode cX6_missing 31 = .ok (.iadd, 1) := by decide +kernel
theorem dX6_missing_32 : decode cX6_missing 32 = .ok (.istore_n 2, 1) := by decide +kernel
theorem dX6_missing_33 : decode cX6_missing 33 = .ok (.iload_n 2, 1) := by decide +kernel
theorem dX6_missing_34 : decode cX6_missing 34 = .ok (.aload_n 0, 1) := by decide +kernel
theorem dX6_missing_35 : decode cX6_missing 35 = .ok (.aload_n 0, 1) := by decide +kernel
theorem dX6_missing_36 : decode cX6_missing 36 = .ok (.invokevirtual 38, 3) := by decide +kernel
theorem dX6_missing_39 : decode cX6_missing 39 = .ok (.iload_n 1, 1) := by decide +kernel
theorem dX6_missing_40 : decode cX6_missing 40 = .ok (.invokevirtual 42, 3) := by decide +kernel
theorem dX6_missing_43 : decode cX6_missing 43 = .ok (.isub, 1) := by decide +kernel
theorem dX6_missing_44 : decode cX6_missing 44 = .ok (.istore_n 3, 1) := by decide +kernel
theorem dX6_missing_45 : decode cX6_missing 45 = .ok (.aload_n 0, 1) := by decide +kernel
theorem dX6_missing_46 : decode cX6_missing 46 = .ok (.invokevirtual 30, 3) := by decide +kernel
theorem dX6_missing_49 : decode cX6_missing 49 = .ok (.ifCond .eq 13, 3) := by decide +kernel
theorem dX6_missing_52 : decode cX6_missing 52 = .ok (.iload_n 1, 1) := by decide +kernel
theorem dX6_missing_53 : decode cX6_missing 53 = .ok (.aload_n 0, 1) := by decide +kernel
theorem dX6_missing_54 : decode cX6_missing 54 = .ok (.getfield 7, 3) := by decide +kernel
theorem dX6_missing_57 : decode cX6_missing 57 = .ok (.iconst 5, 1) := by decide +kernel
theorem dX6_missing_58 : decode cX6_missing 58 = .ok (.iaload, 1) := by decide +kernel
theorem dX6_missing_59 : decode cX6_missing 59 = .ok (.if_icmp .le 13, 3) := by decide +kernel
theorem dX6_missing_62 : decode cX6_missing 62 = .ok (.iload_n 3, 1) := by decide +kernel
theorem dX6_missing_63 : decode cX6_missing 63 = .ok (.ifCond .ge 7, 3) := by decide +kernel
theorem dX6_missing_66 : decode cX6_missing 66 = .ok (.iconst 0, 1) := by decide +kernel
theorem dX6_missing_67 : decode cX6_missing 67 = .ok (.goto 4, 3) := by decide +kernel
theorem dX6_missing_70 : decode cX6_missing 70 = .ok (.iload_n 3, 1) := by decide +kernel
theorem dX6_missing_71 : decode cX6_missing 71 = .ok (.ireturn, 1) := by decide +kernel
theorem dX6_missing_72 : decode cX6_missing 72 = .ok (.iconst 0, 1) := by decide +kernel
theorem dX6_missing_73 : decode cX6_missing 73 = .ok (.istore 4, 2) := by decide +kernel
theorem dX6_missing_75 : decode cX6_missing 75 = .ok (.iconst 0, 1) := by decide +kernel
theorem dX6_missing_76 : decode cX6_missing 76 = .ok (.istore 5, 2) := by decide +kernel
theorem dX6_missing_78 : decode cX6_missing 78 = .ok (.iload 5, 2) := by decide +kernel
theorem dX6_missing_80 : decode cX6_missing 80 = .ok (.aload_n 0, 1) := by decide +kernel
theorem dX6_missing_81 : decode cX6_missing 81 = .ok (.getfield 7, 3) := by decide +kernel
theorem dX6_missing_84 : decode cX6_missing 84 = .ok (.iconst 1, 1) := by decide +kernel
theorem dX6_missing_85 : decode cX6_missing 85 = .ok (.iaload, 1) := by decide +kernel
theorem dX6_missing_86 : decode cX6_missing 86 = .ok (.if_icmp .ge 64, 3) := by decide +kernel
theorem dX6_missing_89 : decode cX6_missing 89 = .ok (.iload 4, 2) := by decide +kernel
theorem dX6_missing_91 : decode cX6_missing 91 = .ok (.aload_n 0, 1) := by decide +kernel
theorem dX6_missing_92 : decode cX6_missing 92 = .ok (.getfield 7, 3) := by decide +kernel
theorem dX6_missing_95 : decode cX6_missing 95 = .ok (.bipush 32, 2) := by decide +kernel
theorem dX6_missing_97 : decode cX6_missing 97 = .ok (.iload 5, 2) := by decide +kernel
theorem dX6_missing_99 : decode cX6_missing 99 = .ok (.iadd, 1) := by decide +kernel
theorem dX6_missing_100 : decode cX6_missing 100 = .ok (.iaload, 1) := by decide +kernel
theorem dX6_missing_101 : decode cX6_missing 101 = .ok (.aload_n 0, 1) := by decide +kernel
theorem dX6_missing_102 : decode cX6_missing 102 = .ok (.getfield 7, 3) := by decide +kernel
theorem dX6_missing_105 : decode cX6_missing 105 = .ok (.bipush 37, 2) := by decide +kernel
theorem dX6_missing_107 : decode cX6_missing 107 = .ok (.iload 5, 2) := by decide +kernel
theorem dX6_missing_109 : decode cX6_missing 109 = .ok (.iadd, 1) := by decide +kernel
theorem dX6_missing_110 : decode cX6_missing 110 = .ok (.iaload, 1) := by decide +kernel
theorem dX6_missing_111 : decode cX6_missing 111 = .ok (.if_icmp .ne 29, 3) := by decide +kernel
theorem dX6_missing_114 : decode cX6_missing 114 = .ok (.aload_n 0, 1) := by decide +kernel
theorem dX6_missing_115 : decode cX6_missing 115 = .ok (.getfield 7, 3) := by decide +kernel
theorem dX6_missing_118 : decode cX6_missing 118 = .ok (.bipush 20, 2) := by decide +kernel
theorem dX6_missing_120 : decode cX6_missing 120 = .ok (.aload_n 0, 1) := by decide +kernel
theorem dX6_missing_121 : decode cX6_missing 121 = .ok (.getfield 7, 3) := by decide +kernel
theorem dX6_missing_124 : decode cX6_missing 124 = .ok (.bipush 32, 2) := by decide +kernel
theorem dX6_missing_126 : decode cX6_missing 126 = .ok (.iload 5, 2) := by decide +kernel
theorem dX6_missing_128 : decode cX6_missing 128 = .ok (.iadd, 1) := by decide +kernel
theorem dX6_missing_129 : decode cX6_missing 129 = .ok (.iaload, 1) := by decide +kernel
theorem dX6_missing_130 : decode cX6_missing 130 = .ok (.iadd, 1) := by decide +kernel
theorem dX6_missing_131 : decode cX6_missing 131 = .ok (.iaload, 1) := by decide +kernel
theorem dX6_missing_132 : decode cX6_missing 132 = .ok (.iload_n 1, 1) := by decide +kernel
theorem dX6_missing_133 : decode cX6_missing 133 = .ok (.if_icmp .gt 7, 3) := by decide +kernel
theorem dX6_missing_136 : decode cX6_missing 136 = .ok (.iconst 1, 1) := by decide +kernel
theorem dX6_missing_137 : decode cX6_missing 137 = .ok (.goto 4, 3) := by decide +kernel
theorem dX6_missing_140 : decode cX6_missing 140 = .ok (.iconst 0, 1) := by decide +kernel
theorem dX6_missing_141 : decode cX6_missing 141 = .ok (.iadd, 1) := by decide +kernel
theorem dX6_missing_142 : decode cX6_missing 142 = .ok (.istore 4, 2) := by decide +kernel
theorem dX6_missing_144 : decode cX6_missing 144 = .ok (.iinc 5 1, 3) := by decide +kernel
theorem dX6_missing_147 : decode cX6_missing 147 = .ok (.goto (-69), 3) := by decide +kernel
theorem dX6_missing_150 : decode cX6_missing 150 = .ok (.iload_n 2, 1) := by decide +kernel
theorem dX6_missing_151 : decode cX6_missing 151 = .ok (.aload_n 0, 1) := by decide +kernel
theorem dX6_missing_152 : decode cX6_missing 152 = .ok (.bipush 32, 2) := by decide +kernel
theorem dX6_missing_154 : decode cX6_missing 154 = .ok (.iload_n 1, 1) := by decide +kernel
theorem dX6_missing_155 : decode cX6_missing 155 = .ok (.invokevirtual 42, 3) := by decide +kernel
theorem dX6_missing_158 : decode cX6_missing 158 = .ok (.isub, 1) := by decide +kernel
theorem dX6_missing_159 : decode cX6_missing 159 = .ok (.iload_n 3, 1) := by decide +kernel
theorem dX6_missing_160 : decode cX6_missing 160 = .ok (.iload 4, 2) := by decide +kernel
theorem dX6_missing_162 : decode cX6_missing 162 = .ok (.invokestatic 152, 3) := by decide +kernel
theorem dX6_missing_165 : decode cX6_missing 165 = .ok (.ireturn, 1) := by decide +kernel
set_option maxRecDepth 20000 in
theorem ggX6_reachable_X6_holds : GoodIn wsX6_reachable wsX6_holds := goodIn_r _ [6, 7, 1, 48, 49, 50, 51, 52, 53, 54, 55, 56] (by decide +kernel) (by decide +kernel)
set_option maxRecDepth 20000 in
theorem gX6_reachable_X6_holds : GoodIn wsX6_reachable (wsV RX6 131 RX6 yX6_holds wsX6_holds) := goodIn_app (goodIn_of _ (by decide +kernel)) ggX6_reachable_X6_holds
set_option maxRecDepth 20000 in
theorem ggX6_reachable_X6_isElder : GoodIn wsX6_reachable wsX6_isElder := goodIn_r _ [11, 12, 13, 14, 5, 15, 1, 16, 17, 18, 19, 20, 21, 22, 23, 48, 49, 50, 51, 52, 53, 54, 55, 56] (by decide +kernel) (by decide +kernel)
set_option maxRecDepth 20000 in
theorem gX6_reachable_X6_isElder : GoodIn wsX6_reachable (wsV RX6 72 RX6 yX6_isElder wsX6_isElder) := goodIn_app (goodIn_of _ (by decide +kernel)) ggX6_reachable_X6_isElder
set_option maxRecDepth 20000 in
theorem ggX6_reachable_X6_isPresent : GoodIn wsX6_reachable wsX6_isPresent := goodIn_r _ [27, 1, 48, 49, 50, 51, 52, 53, 54, 55, 56] (by decide +kernel) (by decide +kernel)
set_option maxRecDepth 20000 in
theorem gX6_reachable_X6_isPresent : GoodIn wsX6_reachable (wsV RX6 75 RX6 yX6_isPresent wsX6_isPresent) := goodIn_app (goodIn_of _ (by decide +kernel)) ggX6_reachable_X6_isPresent
set_option maxRecDepth 20000 in
theorem ggX6_reachable_X6_agrees : GoodIn wsX6_reachable wsX6_agrees := goodIn_r _ [31, 1, 32, 33, 34, 5, 35, 36, 37, 38, 39, 16, 17, 18, 19, 20, 21, 22, 23, 40, 41, 42, 43, 48, 49, 50, 51, 52, 53, 54, 55, 56] (by decide +kernel) (by decide +kernel)
set_option maxRecDepth 20000 in
theorem gX6_reachable_X6_agrees : GoodIn wsX6_reachable (wsV RX6 97 RX6 yX6_agrees wsX6_agrees) := goodIn_app (goodIn_of _ (by decide +kernel)) ggX6_reachable_X6_agrees
set_option maxRecDepth 20000 in
theorem ggX6_reachable_X6_exchanges : GoodIn wsX6_reachable wsX6_exchanges := goodIn_r _ [47, 1, 7, 48, 49, 50, 51, 52, 53, 54, 55, 56] (by decide +kernel) (by decide +kernel)
set_option maxRecDepth 20000 in
theorem gX6_reachable_X6_exchanges : GoodIn wsX6_reachable (wsV RX6 137 RX6 yX6_exchanges wsX6_exchanges) := goodIn_app (goodIn_of _ (by decide +kernel)) ggX6_reachable_X6_exchanges
theorem dX6_reachable_0 : decode cX6_reachable 0 = .ok (.aload_n 0, 1) := by decide +kernel
theorem dX6_reachable_1 : decode cX6_reachable 1 = .ok (.invokevirtual 131, 3) := by decide +kernel
theorem dX6_reachable_4 : decode cX6_reachable 4 = .ok (.iconst 0, 1) := by decide +kernel
theorem dX6_reachable_5 : decode cX6_reachable 5 = .ok (.istore_n 1, 1) := by decide +kernel
theorem dX6_reachable_6 : decode cX6_reachable 6 = .ok (.iload_n 1, 1) := by decide +kernel
theorem dX6_reachable_7 : decode cX6_reachable 7 = .ok (.aload_n 0, 1) := by decide +kernel
theorem dX6_reachable_8 : decode cX6_reachable 8 = .ok (.getfield 7, 3) := by decide +kernel
theorem dX6_reachable_11 : decode cX6_reachable 11 = .ok (.iconst 0, 1) := by decide +kernel
theorem dX6_reachable_12 : decode cX6_reachable 12 = .ok (.iaload, 1) := by decide +kernel
theorem dX6_reachable_13 : decode cX6_reachable 13 = .ok (.if_icmp .ge 52, 3) := by decide +kernel
theorem dX6_reachable_16 : decode cX6_reachable 16 = .ok (.aload_n 0, 1) := by decide +kernel
theorem dX6_reachable_17 : decode cX6_reachable 17 = .ok (.getfield 7, 3) := by decide +kernel
theorem dX6_reachable_20 : decode cX6_reachable 20 = .ok (.bipush 20, 2) := by decide +kernel
theorem dX6_reachable_22 : decode cX6_reachable 22 = .ok (.iload_n 1, 1) := by decide +kernel
theorem dX6_reachable_23 : decode cX6_reachable 23 = .ok (.iadd, 1) := by decide +kernel
theorem dX6_reachable_24 : decode cX6_reachable 24 = .ok (.aload_n 0, 1) := by decide +kernel
theorem dX6_reachable_25 : decode cX6_reachable 25 = .ok (.iload_n 1, 1) := by decide +kernel
theorem dX6_reachable_26 : decode cX6_reachable 26 = .ok (.invokevirtual 72, 3) := by decide +kernel
theorem dX6_reachable_29 : decode cX6_reachable 29 = .ok (.ifCond .eq 20, 3) := by decide +kernel
theorem dX6_reachable_32 : decode cX6_reachable 32 = .ok (.aload_n 0, 1) := by decide +kernel
theorem dX6_reachable_33 : decode cX6_reachable 33 = .ok (.iload_n 1, 1) := by decide +kernel
theorem dX6_reachable_34 : decode cX6_reachable 34 = .ok (.invokevirtual 75, 3) := by decide +kernel
theorem dX6_reachable_37 : decode cX6_reachable 37 = .ok (.ifCond .eq 12, 3) := by decide +kernel
theorem dX6_reachable_40 : decode cX6_reachable 40 = .ok (.aload_n 0, 1) := by decide +kernel
theorem dX6_reachable_41 : decode cX6_reachable 41 = .ok (.getfield 7, 3) := by decide +kernel
theorem dX6_reachable_44 : decode cX6_reachable 44 = .ok (.iconst 3, 1) := by decide +kernel
theorem dX6_reachable_45 : decode cX6_reachable 45 = .ok (.iaload, 1) := by decide +kernel
theorem dX6_reachable_46 : decode cX6_reachable 46 = .ok (.goto 12, 3) := by decide +kernel
theorem dX6_reachable_49 : decode cX6_reachable 49 = .ok (.aload_n 0, 1) := by decide +kernel
theorem dX6_reachable_50 : decode cX6_reachable 50 = .ok (.getfield 7, 3) := by decide +kernel
theorem dX6_reachable_53 : decode cX6_reachable 53 = .ok (.bipush 20, 2) := by decide +kernel
theorem dX6_reachable_55 : decode cX6_reachable 55 = .ok (.iload_n 1, 1) := by decide +kernel
theorem dX6_reachable_56 : decode cX6_reachable 56 = .ok (.iadd, 1) := by decide +kernel
theorem dX6_reachable_57 : decode cX6_reachable 57 = .ok (.iaload, 1) := by decide +kernel
theorem dX6_reachable_58 : decode cX6_reachable 58 = .ok (.iastore, 1) := by decide +kernel
theorem dX6_reachable_59 : decode cX6_reachable 59 = .ok (.iinc 1 1, 3) := by decide +kernel
theorem dX6_reachable_62 : decode cX6_reachable 62 = .ok (.goto (-56), 3) := by decide +kernel
theorem dX6_reachable_65 : decode cX6_reachable 65 = .ok (.aload_n 0, 1) := by decide +kernel
theorem dX6_reachable_66 : decode cX6_reachable 66 = .ok (.getfield 7, 3) := by decide +kernel
theorem dX6_reachable_69 : decode cX6_reachable 69 = .ok (.iconst 1, 1) := by decide +kernel
theorem dX6_reachable_70 : decode cX6_reachable 70 = .ok (.iaload, 1) := by decide +kernel
theorem dX6_reachable_71 : decode cX6_reachable 71 = .ok (.ifCond .ne 7, 3) := by decide +kernel
theorem dX6_reachable_74 : decode cX6_reachable 74 = .ok (.iconst 0, 1) := by decide +kernel
theorem dX6_reachable_75 : decode cX6_reachable 75 = .ok (.goto 7, 3) := by decide +kernel
theorem dX6_reachable_78 : decode cX6_reachable 78 = .ok (.aload_n 0, 1) := by decide +kernel
theorem dX6_reachable_79 : decode cX6_reachable 79 = .ok (.invokevirtual 97, 3) := by decide +kernel
theorem dX6_reachable_82 : decode cX6_reachable 82 = .ok (.istore_n 1, 1) := by decide +kernel
theorem dX6_reachable_83 : decode cX6_reachable 83 = .ok (.aload_n 0, 1) := by decide +kernel
theorem dX6_reachable_84 : decode cX6_reachable 84 = .ok (.invokevirtual 137, 3) := by decide +kernel
theorem dX6_reachable_87 : decode cX6_reachable 87 = .ok (.iload_n 1, 1) := by decide +kernel
theorem dX6_reachable_88 : decode cX6_reachable 88 = .ok (.ireturn, 1) := by decide +kernel
set_option maxRecDepth 20000 in
theorem ggX6_nextDrawn_X6_isSeat : GoodIn wsX6_nextDrawn wsX6_isSeat := goodIn_r _ [6, 1, 29, 30, 31, 32, 33, 34, 35, 36, 37] (by decide +kernel) (by decide +kernel)
set_option maxRecDepth 20000 in
theorem gX6_nextDrawn_X6_isSeat : GoodIn wsX6_nextDrawn (wsV RX6 78 RX6 yX6_isSeat wsX6_isSeat) := goodIn_app (goodIn_of _ (by decide +kernel)) ggX6_nextDrawn_X6_isSeat
set_option maxRecDepth 20000 in
theorem ggX6_nextDrawn_X6_goesOn : GoodIn wsX6_nextDrawn wsX6_goesOn := goodIn_r _ [10, 1, 29, 30, 31, 32, 33, 34, 35, 36, 37] (by decide +kernel) (by decide +kernel)
set_option maxRecDepth 20000 in
theorem gX6_nextDrawn_X6_goesOn : GoodIn wsX6_nextDrawn (wsV RX6 30 RX6 yX6_goesOn wsX6_goesOn) := goodIn_app (goodIn_of _ (by decide +kernel)) ggX6_nextDrawn_X6_goesOn
set_option maxRecDepth 20000 in
theorem ggX6_nextDrawn_X6_candidates : GoodIn wsX6_nextDrawn wsX6_candidates := goodIn_r _ [14, 1, 15, 16, 17, 5, 18, 29, 30, 31, 32, 33, 34, 35, 36, 37] (by decide +kernel) (by decide +kernel)
set_option maxRecDepth 20000 in
theorem gX6_nextDrawn_X6_candidates : GoodIn wsX6_nextDrawn (wsV RX6 81 RX6 yX6_candidates wsX6_candidates) := goodIn_app (goodIn_of _ (by decide +kernel)) ggX6_nextDrawn_X6_candidates
set_option maxRecDepth 20000 in
theorem ggX6_nextDrawn_X6_drawn : GoodIn wsX6_nextDrawn wsX6_drawn := goodIn_r _ [21, 22, 23, 24] (by decide +kernel) (by decide +kernel)
set_option maxRecDepth 20000 in
theorem gX6_nextDrawn_X6_drawn : GoodIn wsX6_nextDrawn (va_wsS RX6 87 yX6_drawn wsX6_drawn) := goodIn_app (goodIn_of _ (by decide +kernel)) ggX6_nextDrawn_X6_drawn
set_option maxRecDepth 20000 in
theorem ggX6_nextDrawn_X6_candidate : GoodIn wsX6_nextDrawn wsX6_candidate := goodIn_r _ [28, 1, 15, 16, 17, 5, 18, 29, 30, 31, 32, 33, 34, 35, 36, 37] (by decide +kernel) (by decide +kernel)
set_option maxRecDepth 20000 in
theorem gX6_nextDrawn_X6_candidate : GoodIn wsX6_nextDrawn (wsV RX6 91 RX6 yX6_candidate wsX6_candidate) := goodIn_app (goodIn_of _ (by decide +kernel)) ggX6_nextDrawn_X6_candidate
theorem dX6_nextDrawn_0 : decode cX6_nextDrawn 0 = .ok (.aload_n 0, 1) := by decide +kernel
theorem dX6_nextDrawn_1 : decode cX6_nextDrawn 1 = .ok (.iload_n 1, 1) := by decide +kernel
theorem dX6_nextDrawn_2 : decode cX6_nextDrawn 2 = .ok (.invokevirtual 78, 3) := by decide +kernel
theorem dX6_nextDrawn_5 : decode cX6_nextDrawn 5 = .ok (.ifCond .ne 5, 3) := by decide +kernel
theorem dX6_nextDrawn_8 : decode cX6_nextDrawn 8 = .ok (.iconst (-1), 1) := by decide +kernel
theorem dX6_nextDrawn_9 : decode cX6_nextDrawn 9 = .ok (.ireturn, 1) := by decide +kernel
theorem dX6_nextDrawn_10 : decode cX6_nextDrawn 10 = .ok (.aload_n 0, 1) := by decide +kernel
theorem dX6_nextDrawn_11 : decode cX6_nextDrawn 11 = .ok (.invokevirtual 30, 3) := by decide +kernel
theorem dX6_nextDrawn_14 : decode cX6_nextDrawn 14 = .ok (.ifCond .eq 6, 3) := by decide +kernel
theorem dX6_nextDrawn_17 : decode cX6_nextDrawn 17 = .ok (.bipush (-2), 2) := by decide +kernel
theorem dX6_nextDrawn_19 : decode cX6_nextDrawn 19 = .ok (.ireturn, 1) := by decide +kernel
theorem dX6_nextDrawn_20 : decode cX6_nextDrawn 20 = .ok (.aload_n 0, 1) := by decide +kernel
theorem dX6_nextDrawn_21 : decode cX6_nextDrawn 21 = .ok (.invokevirtual 81, 3) := by decide +kernel
theorem dX6_nextDrawn_24 : decode cX6_nextDrawn 24 = .ok (.istore_n 2, 1) := by decide +kernel
theorem dX6_nextDrawn_25 : decode cX6_nextDrawn 25 = .ok (.iload_n 2, 1) := by decide +kernel
theorem dX6_nextDrawn_26 : decode cX6_nextDrawn 26 = .ok (.ifCond .ne 8, 3) := by decide +kernel
theorem dX6_nextDrawn_29 : decode cX6_nextDrawn 29 = .ok (.bipush (-9), 2) := by decide +kernel
theorem dX6_nextDrawn_31 : decode cX6_nextDrawn 31 = .ok (.goto 19, 3) := by decide +kernel
theorem dX6_nextDrawn_34 : decode cX6_nextDrawn 34 = .ok (.aload_n 0, 1) := by decide +kernel
theorem dX6_nextDrawn_35 : decode cX6_nextDrawn 35 = .ok (.aload_n 0, 1) := by decide +kernel
theorem dX6_nextDrawn_36 : decode cX6_nextDrawn 36 = .ok (.getfield 7, 3) := by decide +kernel
theorem dX6_nextDrawn_39 : decode cX6_nextDrawn 39 = .ok (.bipush 6, 2) := by decide +kernel
theorem dX6_nextDrawn_41 : decode cX6_nextDrawn 41 = .ok (.iaload, 1) := by decide +kernel
theorem dX6_nextDrawn_42 : decode cX6_nextDrawn 42 = .ok (.invokestatic 87, 3) := by decide +kernel
theorem dX6_nextDrawn_45 : decode cX6_nextDrawn 45 = .ok (.iload_n 2, 1) := by decide +kernel
theorem dX6_nextDrawn_46 : decode cX6_nextDrawn 46 = .ok (.irem, 1) := by decide +kernel
theorem dX6_nextDrawn_47 : decode cX6_nextDrawn 47 = .ok (.invokevirtual 91, 3) := by decide +kernel
theorem dX6_nextDrawn_50 : decode cX6_nextDrawn 50 = .ok (.ireturn, 1) := by decide +kernel
set_option maxRecDepth 20000 in
theorem ggX6_spare_X6_goesOn : GoodIn wsX6_spare wsX6_goesOn := goodIn_r _ [6, 1, 10, 11, 12, 13, 14, 15, 16, 17, 18] (by decide +kernel) (by decide +kernel)
set_option maxRecDepth 20000 in
theorem gX6_spare_X6_goesOn : GoodIn wsX6_spare (wsV RX6 30 RX6 yX6_goesOn wsX6_goesOn) := goodIn_app (goodIn_of _ (by decide +kernel)) ggX6_spare_X6_goesOn
set_option maxRecDepth 20000 in
theorem ggX6_spare_X6_fewest : GoodIn wsX6_spare wsX6_fewest := goodIn_r _ [9] (by decide +kernel) (by decide +kernel)
set_option maxRecDepth 20000 in
theorem gX6_spare_X6_fewest : GoodIn wsX6_spare (va_wsS RX6 152 yX6_fewest wsX6_fewest) := goodIn_app (goodIn_of _ (by decide +kernel)) ggX6_spare_X6_fewest
theorem dX6_spare_0 : decode cX6_spare 0 = .ok (.aload_n 0, 1) := by decide +kernel
theorem dX6_spare_1 : decode cX6_spare 1 = .ok (.getfield 7, 3) := by decide +kernel
theorem dX6_spare_4 : decode cX6_spare 4 = .ok (.iconst 1, 1) := by decide +kernel
theorem dX6_spare_5 : decode cX6_spare 5 = .ok (.iaload, 1) := by decide +kernel
theorem dX6_spare_6 : decode cX6_spare 6 = .ok (.ifCond .ne 6, 3) := by decide +kernel
theorem dX6_spare_9 : decode cX6_spare 9 = .ok (.bipush (-9), 2) := by decide +kernel
theorem dX6_spare_11 : decode cX6_spare 11 = .ok (.ireturn, 1) := by decide +kernel
theorem dX6_spare_12 : decode cX6_spare 12 = .ok (.aload_n 0, 1) := by decide +kernel
theorem dX6_spare_13 : decode cX6_spare 13 = .ok (.getfield 7, 3) := by decide +kernel
theorem dX6_spare_16 : decode cX6_spare 16 = .ok (.iconst 1, 1) := by decide +kernel
theorem dX6_spare_17 : decode cX6_spare 17 = .ok (.iaload, 1) := by decide +kernel
theorem dX6_spare_18 : decode cX6_spare 18 = .ok (.iconst 2, 1) := by decide +kernel
theorem dX6_spare_19 : decode cX6_spare 19 = .ok (.idiv, 1) := by decide +kernel
theorem dX6_spare_20 : decode cX6_spare 20 = .ok (.iconst 1, 1) := by decide +kernel
theorem dX6_spare_21 : decode cX6_spare 21 = .ok (.iadd, 1) := by decide +kernel
theorem dX6_spare_22 : decode cX6_spare 22 = .ok (.istore_n 1, 1) := by decide +kernel
theorem dX6_spare_23 : decode cX6_spare 23 = .ok (.aload_n 0, 1) := by decide +kernel
theorem dX6_spare_24 : decode cX6_spare 24 = .ok (.getfield 7, 3) := by decide +kernel
theorem dX6_spare_27 : decode cX6_spare 27 = .ok (.iconst 0, 1) := by decide +kernel
theorem dX6_spare_28 : decode cX6_spare 28 = .ok (.iaload, 1) := by decide +kernel
theorem dX6_spare_29 : decode cX6_spare 29 = .ok (.aload_n 0, 1) := by decide +kernel
theorem dX6_spare_30 : decode cX6_spare 30 = .ok (.invokevirtual 30, 3) := by decide +kernel
theorem dX6_spare_33 : decode cX6_spare 33 = .ok (.ifCond .eq 19, 3) := by decide +kernel
theorem dX6_spare_36 : decode cX6_spare 36 = .ok (.iload_n 1, 1) := by decide +kernel
theorem dX6_spare_37 : decode cX6_spare 37 = .ok (.iload_n 1, 1) := by decide +kernel
theorem dX6_spare_38 : decode cX6_spare 38 = .ok (.aload_n 0, 1) := by decide +kernel
theorem dX6_spare_39 : decode cX6_spare 39 = .ok (.getfield 7, 3) := by decide +kernel
theorem dX6_spare_42 : decode cX6_spare 42 = .ok (.iconst 1, 1) := by decide +kernel
theorem dX6_spare_43 : decode cX6_spare 43 = .ok (.iaload, 1) := by decide +kernel
theorem dX6_spare_44 : decode cX6_spare 44 = .ok (.iconst 1, 1) := by decide +kernel
theorem dX6_spare_45 : decode cX6_spare 45 = .ok (.isub, 1) := by decide +kernel
theorem dX6_spare_46 : decode cX6_spare 46 = .ok (.invokestatic 152, 3) := by decide +kernel
theorem dX6_spare_49 : decode cX6_spare 49 = .ok (.goto 4, 3) := by decide +kernel
theorem dX6_spare_52 : decode cX6_spare 52 = .ok (.iload_n 1, 1) := by decide +kernel
theorem dX6_spare_53 : decode cX6_spare 53 = .ok (.isub, 1) := by decide +kernel
theorem dX6_spare_54 : decode cX6_spare 54 = .ok (.ireturn, 1) := by decide +kernel
set_option maxRecDepth 20000 in
theorem ggX6_lotFor_X6_isVillager : GoodIn wsX6_lotFor wsX6_isVillager := goodIn_r _ [6, 7, 34, 35, 36, 37, 38, 39, 40, 41, 42] (by decide +kernel) (by decide +kernel)
set_option maxRecDepth 20000 in
theorem gX6_lotFor_X6_isVillager : GoodIn wsX6_lotFor (wsV RX6 55 RX6 yX6_isVillager wsX6_isVillager) := goodIn_app (goodIn_of _ (by decide +kernel)) ggX6_lotFor_X6_isVillager
set_option maxRecDepth 20000 in
theorem ggX6_lotFor_X6_isSeat : GoodIn wsX6_lotFor wsX6_isSeat := goodIn_r _ [11, 7, 34, 35, 36, 37, 38, 39, 40, 41, 42] (by decide +kernel) (by decide +kernel)
set_option maxRecDepth 20000 in
theorem gX6_lotFor_X6_isSeat : GoodIn wsX6_lotFor (wsV RX6 78 RX6 yX6_isSeat wsX6_isSeat) := goodIn_app (goodIn_of _ (by decide +kernel)) ggX6_lotFor_X6_isSeat
set_option maxRecDepth 20000 in
theorem ggX6_lotFor_X6_goesOn : GoodIn wsX6_lotFor wsX6_goesOn := goodIn_r _ [15, 7, 34, 35, 36, 37, 38, 39, 40, 41, 42] (by decide +kernel) (by decide +kernel)
set_option maxRecDepth 20000 in
theorem gX6_lotFor_X6_goesOn : GoodIn wsX6_lotFor (wsV RX6 30 RX6 yX6_goesOn wsX6_goesOn) := goodIn_app (goodIn_of _ (by decide +kernel)) ggX6_lotFor_X6_goesOn
set_option maxRecDepth 20000 in
theorem ggX6_lotFor_X6_candidates : GoodIn wsX6_lotFor wsX6_candidates := goodIn_r _ [19, 7, 20, 21, 22, 5, 23, 34, 35, 36, 37, 38, 39, 40, 41, 42] (by decide +kernel) (by decide +kernel)
set_option maxRecDepth 20000 in
theorem gX6_lotFor_X6_candidates : GoodIn wsX6_lotFor (wsV RX6 81 RX6 yX6_candidates wsX6_candidates) := goodIn_app (goodIn_of _ (by decide +kernel)) ggX6_lotFor_X6_candidates
set_option maxRecDepth 20000 in
theorem ggX6_lotFor_X6_seatOf : GoodIn wsX6_lotFor wsX6_seatOf := goodIn_r _ [23, 7, 34, 35, 36, 37, 38, 39, 40, 41, 42] (by decide +kernel) (by decide +kernel)
set_option maxRecDepth 20000 in
theorem gX6_lotFor_X6_seatOf : GoodIn wsX6_lotFor (wsV RX6 34 RX6 yX6_seatOf wsX6_seatOf) := goodIn_app (goodIn_of _ (by decide +kernel)) ggX6_lotFor_X6_seatOf
set_option maxRecDepth 20000 in
theorem ggX6_lotFor_X6_drawn : GoodIn wsX6_lotFor wsX6_drawn := goodIn_r _ [26, 27, 28, 29] (by decide +kernel) (by decide +kernel)
set_option maxRecDepth 20000 in
theorem gX6_lotFor_X6_drawn : GoodIn wsX6_lotFor (va_wsS RX6 87 yX6_drawn wsX6_drawn) := goodIn_app (goodIn_of _ (by decide +kernel)) ggX6_lotFor_X6_drawn
set_option maxRecDepth 20000 in
theorem ggX6_lotFor_X6_candidate : GoodIn wsX6_lotFor wsX6_candidate := goodIn_r _ [33, 7, 20, 21, 22, 5, 23, 34, 35, 36, 37, 38, 39, 40, 41, 42] (by decide +kernel) (by decide +kernel)
set_option maxRecDepth 20000 in
theorem gX6_lotFor_X6_candidate : GoodIn wsX6_lotFor (wsV RX6 91 RX6 yX6_candidate wsX6_candidate) := goodIn_app (goodIn_of _ (by decide +kernel)) ggX6_lotFor_X6_candidate
theorem dX6_lotFor_0 : decode cX6_lotFor 0 = .ok (.aload_n 0, 1) := by decide +kernel
theorem dX6_lotFor_1 : decode cX6_lotFor 1 = .ok (.iload_n 1, 1) := by decide +kernel
theorem dX6_lotFor_2 : decode cX6_lotFor 2 = .ok (.invokevirtual 55, 3) := by decide +kernel
theorem dX6_lotFor_5 : decode cX6_lotFor 5 = .ok (.ifCond .eq 11, 3) := by decide +kernel
theorem dX6_lotFor_8 : decode cX6_lotFor 8 = .ok (.aload_n 0, 1) := by decide +kernel
theorem dX6_lotFor_9 : decode cX6_lotFor 9 = .ok (.iload_n 2, 1) := by decide +kernel
theorem dX6_lotFor_10 : decode cX6_lotFor 10 = .ok (.invokevirtual 78, 3) := by decide +kernel
theorem dX6_lotFor_13 : decode cX6_lotFor 13 = .ok (.ifCond .ne 5, 3) := by decide +kernel
theorem dX6_lotFor_16 : decode cX6_lotFor 16 = .ok (.iconst (-1), 1) := by decide +kernel
theorem dX6_lotFor_17 : decode cX6_lotFor 17 = .ok (.ireturn, 1) := by decide +kernel
theorem dX6_lotFor_18 : decode cX6_lotFor 18 = .ok (.aload_n 0, 1) := by decide +kernel
theorem dX6_lotFor_19 : decode cX6_lotFor 19 = .ok (.invokevirtual 30, 3) := by decide +kernel
theorem dX6_lotFor_22 : decode cX6_lotFor 22 = .ok (.ifCond .eq 6, 3) := by decide +kernel
theorem dX6_lotFor_25 : decode cX6_lotFor 25 = .ok (.bipush (-2), 2) := by decide +kernel
theorem dX6_lotFor_27 : decode cX6_lotFor 27 = .ok (.ireturn, 1) := by decide +kernel
theorem dX6_lotFor_28 : decode cX6_lotFor 28 = .ok (.aload_n 0, 1) := by decide +kernel
theorem dX6_lotFor_29 : decode cX6_lotFor 29 = .ok (.invokevirtual 81, 3) := by decide +kernel
theorem dX6_lotFor_32 : decode cX6_lotFor 32 = .ok (.istore_n 3, 1) := by decide +kernel
theorem dX6_lotFor_33 : decode cX6_lotFor 33 = .ok (.iconst 0, 1) := by decide +kernel
theorem dX6_lotFor_34 : decode cX6_lotFor 34 = .ok (.istore 4, 2) := by decide +kernel
theorem dX6_lotFor_36 : decode cX6_lotFor 36 = .ok (.iload 4, 2) := by decide +kernel
theorem dX6_lotFor_38 : decode cX6_lotFor 38 = .ok (.ldc 156, 2) := by decide +kernel
theorem dX6_lotFor_40 : decode cX6_lotFor 40 = .ok (.if_icmp .ge 39, 3) := by decide +kernel
theorem dX6_lotFor_43 : decode cX6_lotFor 43 = .ok (.aload_n 0, 1) := by decide +kernel
theorem dX6_lotFor_44 : decode cX6_lotFor 44 = .ok (.bipush 32, 2) := by decide +kernel
theorem dX6_lotFor_46 : decode cX6_lotFor 46 = .ok (.iload_n 1, 1) := by decide +kernel
theorem dX6_lotFor_47 : decode cX6_lotFor 47 = .ok (.invokevirtual 34, 3) := by decide +kernel
theorem dX6_lotFor_50 : decode cX6_lotFor 50 = .ok (.bipush (-9), 2) := by decide +kernel
theorem dX6_lotFor_52 : decode cX6_lotFor 52 = .ok (.if_icmp .ne 27, 3) := by decide +kernel
theorem dX6_lotFor_55 : decode cX6_lotFor 55 = .ok (.aload_n 0, 1) := by decide +kernel
theorem dX6_lotFor_56 : decode cX6_lotFor 56 = .ok (.iload 4, 2) := by decide +kernel
theorem dX6_lotFor_58 : decode cX6_lotFor 58 = .ok (.invokestatic 87, 3) := by decide +kernel
theorem dX6_lotFor_61 : decode cX6_lotFor 61 = .ok (.iload_n 3, 1) := by decide +kernel
theorem dX6_lotFor_62 : decode cX6_lotFor 62 = .ok (.irem, 1) := by decide +kernel
theorem dX6_lotFor_63 : decode cX6_lotFor 63 = .ok (.invokevirtual 91, 3) := by decide +kernel
theorem dX6_lotFor_66 : decode cX6_lotFor 66 = .ok (.iload_n 1, 1) := by decide +kernel
theorem dX6_lotFor_67 : decode cX6_lotFor 67 = .ok (.if_icmp .ne 6, 3) := by decide +kernel
theorem dX6_lotFor_70 : decode cX6_lotFor 70 = .ok (.iload 4, 2) := by decide +kernel
theorem dX6_lotFor_72 : decode cX6_lotFor 72 = .ok (.ireturn, 1) := by decide +kernel
theorem dX6_lotFor_73 : decode cX6_lotFor 73 = .ok (.iinc 4 1, 3) := by decide +kernel
theorem dX6_lotFor_76 : decode cX6_lotFor 76 = .ok (.goto (-40), 3) := by decide +kernel
theorem dX6_lotFor_79 : decode cX6_lotFor 79 = .ok (.bipush (-9), 2) := by decide +kernel
theorem dX6_lotFor_81 : decode cX6_lotFor 81 = .ok (.ireturn, 1) := by decide +kernel

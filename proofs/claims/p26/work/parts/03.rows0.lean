theorem dX0_init_0 : decode cX0_init 0 = .ok (.aload_n 0, 1) := by decide +kernel
theorem dX0_init_1 : decode cX0_init 1 = .ok (.invokespecial 3, 3) := by decide +kernel
theorem dX0_init_4 : decode cX0_init 4 = .ok (.aload_n 0, 1) := by decide +kernel
theorem dX0_init_5 : decode cX0_init 5 = .ok (.iconst 5, 1) := by decide +kernel
theorem dX0_init_6 : decode cX0_init 6 = .ok (.newarray .int, 2) := by decide +kernel
theorem dX0_init_8 : decode cX0_init 8 = .ok (.putfield 9, 3) := by decide +kernel
theorem dX0_init_11 : decode cX0_init 11 = .ok (.return_, 1) := by decide +kernel
theorem dX0_copyFrom_0 : decode cX0_copyFrom 0 = .ok (.aload_n 0, 1) := by decide +kernel
theorem dX0_copyFrom_1 : decode cX0_copyFrom 1 = .ok (.aload_n 1, 1) := by decide +kernel
theorem dX0_copyFrom_2 : decode cX0_copyFrom 2 = .ok (.getfield 15, 3) := by decide +kernel
theorem dX0_copyFrom_5 : decode cX0_copyFrom 5 = .ok (.putfield 15, 3) := by decide +kernel
theorem dX0_copyFrom_8 : decode cX0_copyFrom 8 = .ok (.aload_n 1, 1) := by decide +kernel
theorem dX0_copyFrom_9 : decode cX0_copyFrom 9 = .ok (.getfield 9, 3) := by decide +kernel
theorem dX0_copyFrom_12 : decode cX0_copyFrom 12 = .ok (.iconst 0, 1) := by decide +kernel
theorem dX0_copyFrom_13 : decode cX0_copyFrom 13 = .ok (.aload_n 0, 1) := by decide +kernel
theorem dX0_copyFrom_14 : decode cX0_copyFrom 14 = .ok (.getfield 9, 3) := by decide +kernel
theorem dX0_copyFrom_17 : decode cX0_copyFrom 17 = .ok (.iconst 0, 1) := by decide +kernel
theorem dX0_copyFrom_18 : decode cX0_copyFrom 18 = .ok (.iconst 5, 1) := by decide +kernel
theorem dX0_copyFrom_19 : decode cX0_copyFrom 19 = .ok (.invokestatic 19, 3) := by decide +kernel
theorem dX0_copyFrom_22 : decode cX0_copyFrom 22 = .ok (.return_, 1) := by decide +kernel
theorem dX0_seatFirst_0 : decode cX0_seatFirst 0 = .ok (.aload_n 0, 1) := by decide +kernel
theorem dX0_seatFirst_1 : decode cX0_seatFirst 1 = .ok (.iload_n 1, 1) := by decide +kernel
theorem dX0_seatFirst_2 : decode cX0_seatFirst 2 = .ok (.iconst 5, 1) := by decide +kernel
theorem dX0_seatFirst_3 : decode cX0_seatFirst 3 = .ok (.invokestatic 25, 3) := by decide +kernel
theorem dX0_seatFirst_6 : decode cX0_seatFirst 6 = .ok (.putfield 15, 3) := by decide +kernel
theorem dX0_seatFirst_9 : decode cX0_seatFirst 9 = .ok (.iconst 0, 1) := by decide +kernel
theorem dX0_seatFirst_10 : decode cX0_seatFirst 10 = .ok (.istore_n 2, 1) := by decide +kernel
theorem dX0_seatFirst_11 : decode cX0_seatFirst 11 = .ok (.iload_n 2, 1) := by decide +kernel
theorem dX0_seatFirst_12 : decode cX0_seatFirst 12 = .ok (.aload_n 0, 1) := by decide +kernel
theorem dX0_seatFirst_13 : decode cX0_seatFirst 13 = .ok (.getfield 15, 3) := by decide +kernel
theorem dX0_seatFirst_16 : decode cX0_seatFirst 16 = .ok (.if_icmp .ge 16, 3) := by decide +kernel
theorem dX0_seatFirst_19 : decode cX0_seatFirst 19 = .ok (.aload_n 0, 1) := by decide +kernel
theorem dX0_seatFirst_20 : decode cX0_seatFirst 20 = .ok (.getfield 9, 3) := by decide +kernel
theorem dX0_seatFirst_23 : decode cX0_seatFirst 23 = .ok (.iload_n 2, 1) := by decide +kernel
theorem dX0_seatFirst_24 : decode cX0_seatFirst 24 = .ok (.iload_n 2, 1) := by decide +kernel
theorem dX0_seatFirst_25 : decode cX0_seatFirst 25 = .ok (.iastore, 1) := by decide +kernel
theorem dX0_seatFirst_26 : decode cX0_seatFirst 26 = .ok (.iinc 2 1, 3) := by decide +kernel
theorem dX0_seatFirst_29 : decode cX0_seatFirst 29 = .ok (.goto (-18), 3) := by decide +kernel
theorem dX0_seatFirst_32 : decode cX0_seatFirst 32 = .ok (.return_, 1) := by decide +kernel
set_option maxRecDepth 20000 in
theorem ggX0_place_X0_hasSeat : GoodIn wsX0_place wsX0_hasSeat := goodIn_r _ [6, 7, 8, 9] (by decide +kernel) (by decide +kernel)
set_option maxRecDepth 20000 in
theorem gX0_place_X0_hasSeat : GoodIn wsX0_place (wsV RX0 31 RX0 yX0_hasSeat wsX0_hasSeat) := goodIn_app (goodIn_of _ (by decide +kernel)) ggX0_place_X0_hasSeat
theorem dX0_place_0 : decode cX0_place 0 = .ok (.aload_n 0, 1) := by decide +kernel
theorem dX0_place_1 : decode cX0_place 1 = .ok (.iload_n 1, 1) := by decide +kernel
theorem dX0_place_2 : decode cX0_place 2 = .ok (.invokevirtual 31, 3) := by decide +kernel
theorem dX0_place_5 : decode cX0_place 5 = .ok (.ifCond .eq 10, 3) := by decide +kernel
theorem dX0_place_8 : decode cX0_place 8 = .ok (.aload_n 0, 1) := by decide +kernel
theorem dX0_place_9 : decode cX0_place 9 = .ok (.getfield 9, 3) := by decide +kernel
theorem dX0_place_12 : decode cX0_place 12 = .ok (.iload_n 1, 1) := by decide +kernel
theorem dX0_place_13 : decode cX0_place 13 = .ok (.iload_n 2, 1) := by decide +kernel
theorem dX0_place_14 : decode cX0_place 14 = .ok (.iastore, 1) := by decide +kernel
theorem dX0_place_15 : decode cX0_place 15 = .ok (.return_, 1) := by decide +kernel
theorem dX0_size_0 : decode cX0_size 0 = .ok (.aload_n 0, 1) := by decide +kernel
theorem dX0_size_1 : decode cX0_size 1 = .ok (.getfield 15, 3) := by decide +kernel
theorem dX0_size_4 : decode cX0_size 4 = .ok (.ireturn, 1) := by decide +kernel
theorem dX0_isEmpty_0 : decode cX0_isEmpty 0 = .ok (.aload_n 0, 1) := by decide +kernel
theorem dX0_isEmpty_1 : decode cX0_isEmpty 1 = .ok (.getfield 15, 3) := by decide +kernel
theorem dX0_isEmpty_4 : decode cX0_isEmpty 4 = .ok (.ifCond .ne 7, 3) := by decide +kernel
theorem dX0_isEmpty_7 : decode cX0_isEmpty 7 = .ok (.iconst 1, 1) := by decide +kernel
theorem dX0_isEmpty_8 : decode cX0_isEmpty 8 = .ok (.goto 4, 3) := by decide +kernel
theorem dX0_isEmpty_11 : decode cX0_isEmpty 11 = .ok (.iconst 0, 1) := by decide +kernel
theorem dX0_isEmpty_12 : decode cX0_isEmpty 12 = .ok (.ireturn, 1) := by decide +kernel
theorem dX0_hasSeat_0 : decode cX0_hasSeat 0 = .ok (.iload_n 1, 1) := by decide +kernel
theorem dX0_hasSeat_1 : decode cX0_hasSeat 1 = .ok (.ifCond .lt 15, 3) := by decide +kernel
theorem dX0_hasSeat_4 : decode cX0_hasSeat 4 = .ok (.iload_n 1, 1) := by decide +kernel
theorem dX0_hasSeat_5 : decode cX0_hasSeat 5 = .ok (.aload_n 0, 1) := by decide +kernel
theorem dX0_hasSeat_6 : decode cX0_hasSeat 6 = .ok (.getfield 15, 3) := by decide +kernel
theorem dX0_hasSeat_9 : decode cX0_hasSeat 9 = .ok (.if_icmp .ge 7, 3) := by decide +kernel
theorem dX0_hasSeat_12 : decode cX0_hasSeat 12 = .ok (.iconst 1, 1) := by decide +kernel
theorem dX0_hasSeat_13 : decode cX0_hasSeat 13 = .ok (.goto 4, 3) := by decide +kernel
theorem dX0_hasSeat_16 : decode cX0_hasSeat 16 = .ok (.iconst 0, 1) := by decide +kernel
theorem dX0_hasSeat_17 : decode cX0_hasSeat 17 = .ok (.ireturn, 1) := by decide +kernel
set_option maxRecDepth 20000 in
theorem ggX0_elderOn_X0_hasSeat : GoodIn wsX0_elderOn wsX0_hasSeat := goodIn_r _ [6, 7, 8, 9] (by decide +kernel) (by decide +kernel)
set_option maxRecDepth 20000 in
theorem gX0_elderOn_X0_hasSeat : GoodIn wsX0_elderOn (wsV RX0 31 RX0 yX0_hasSeat wsX0_hasSeat) := goodIn_app (goodIn_of _ (by decide +kernel)) ggX0_elderOn_X0_hasSeat
theorem dX0_elderOn_0 : decode cX0_elderOn 0 = .ok (.aload_n 0, 1) := by decide +kernel
theorem dX0_elderOn_1 : decode cX0_elderOn 1 = .ok (.iload_n 1, 1) := by decide +kernel
theorem dX0_elderOn_2 : decode cX0_elderOn 2 = .ok (.invokevirtual 31, 3) := by decide +kernel
theorem dX0_elderOn_5 : decode cX0_elderOn 5 = .ok (.ifCond .eq 12, 3) := by decide +kernel
theorem dX0_elderOn_8 : decode cX0_elderOn 8 = .ok (.aload_n 0, 1) := by decide +kernel
theorem dX0_elderOn_9 : decode cX0_elderOn 9 = .ok (.getfield 9, 3) := by decide +kernel
theorem dX0_elderOn_12 : decode cX0_elderOn 12 = .ok (.iload_n 1, 1) := by decide +kernel
theorem dX0_elderOn_13 : decode cX0_elderOn 13 = .ok (.iaload, 1) := by decide +kernel
theorem dX0_elderOn_14 : decode cX0_elderOn 14 = .ok (.goto 5, 3) := by decide +kernel
theorem dX0_elderOn_17 : decode cX0_elderOn 17 = .ok (.bipush (-9), 2) := by decide +kernel
theorem dX0_elderOn_19 : decode cX0_elderOn 19 = .ok (.ireturn, 1) := by decide +kernel
theorem dX0_seatOf_0 : decode cX0_seatOf 0 = .ok (.iconst 0, 1) := by decide +kernel
theorem dX0_seatOf_1 : decode cX0_seatOf 1 = .ok (.istore_n 2, 1) := by decide +kernel
theorem dX0_seatOf_2 : decode cX0_seatOf 2 = .ok (.iload_n 2, 1) := by decide +kernel
theorem dX0_seatOf_3 : decode cX0_seatOf 3 = .ok (.aload_n 0, 1) := by decide +kernel
theorem dX0_seatOf_4 : decode cX0_seatOf 4 = .ok (.getfield 15, 3) := by decide +kernel
theorem dX0_seatOf_7 : decode cX0_seatOf 7 = .ok (.if_icmp .ge 21, 3) := by decide +kernel
theorem dX0_seatOf_10 : decode cX0_seatOf 10 = .ok (.aload_n 0, 1) := by decide +kernel
theorem dX0_seatOf_11 : decode cX0_seatOf 11 = .ok (.getfield 9, 3) := by decide +kernel
theorem dX0_seatOf_14 : decode cX0_seatOf 14 = .ok (.iload_n 2, 1) := by decide +kernel
theorem dX0_seatOf_15 : decode cX0_seatOf 15 = .ok (.iaload, 1) := by decide +kernel
theorem dX0_seatOf_16 : decode cX0_seatOf 16 = .ok (.iload_n 1, 1) := by decide +kernel
theorem dX0_seatOf_17 : decode cX0_seatOf 17 = .ok (.if_icmp .ne 5, 3) := by decide +kernel
theorem dX0_seatOf_20 : decode cX0_seatOf 20 = .ok (.iload_n 2, 1) := by decide +kernel
theorem dX0_seatOf_21 : decode cX0_seatOf 21 = .ok (.ireturn, 1) := by decide +kernel
theorem dX0_seatOf_22 : decode cX0_seatOf 22 = .ok (.iinc 2 1, 3) := by decide +kernel
theorem dX0_seatOf_25 : decode cX0_seatOf 25 = .ok (.goto (-23), 3) := by decide +kernel
theorem dX0_seatOf_28 : decode cX0_seatOf 28 = .ok (.bipush (-9), 2) := by decide +kernel
theorem dX0_seatOf_30 : decode cX0_seatOf 30 = .ok (.ireturn, 1) := by decide +kernel
set_option maxRecDepth 20000 in
theorem ggX0_has_X0_seatOf : GoodIn wsX0_has wsX0_seatOf := goodIn_r _ [5, 6, 7, 8, 9] (by decide +kernel) (by decide +kernel)
set_option maxRecDepth 20000 in
theorem gX0_has_X0_seatOf : GoodIn wsX0_has (wsV RX0 35 RX0 yX0_seatOf wsX0_seatOf) := goodIn_app (goodIn_of _ (by decide +kernel)) ggX0_has_X0_seatOf
theorem dX0_has_0 : decode cX0_has 0 = .ok (.aload_n 0, 1) := by decide +kernel
theorem dX0_has_1 : decode cX0_has 1 = .ok (.iload_n 1, 1) := by decide +kernel
theorem dX0_has_2 : decode cX0_has 2 = .ok (.invokevirtual 35, 3) := by decide +kernel
theorem dX0_has_5 : decode cX0_has 5 = .ok (.bipush (-9), 2) := by decide +kernel
theorem dX0_has_7 : decode cX0_has 7 = .ok (.if_icmp .eq 7, 3) := by decide +kernel
theorem dX0_has_10 : decode cX0_has 10 = .ok (.iconst 1, 1) := by decide +kernel
theorem dX0_has_11 : decode cX0_has 11 = .ok (.goto 4, 3) := by decide +kernel
theorem dX0_has_14 : decode cX0_has 14 = .ok (.iconst 0, 1) := by decide +kernel
theorem dX0_has_15 : decode cX0_has 15 = .ok (.ireturn, 1) := by decide +kernel
theorem dX0_majority_0 : decode cX0_majority 0 = .ok (.aload_n 0, 1) := by decide +kernel
theorem dX0_majority_1 : decode cX0_majority 1 = .ok (.getfield 15, 3) := by decide +kernel
theorem dX0_majority_4 : decode cX0_majority 4 = .ok (.iconst 2, 1) := by decide +kernel
theorem dX0_majority_5 : decode cX0_majority 5 = .ok (.idiv, 1) := by decide +kernel
theorem dX0_majority_6 : decode cX0_majority 6 = .ok (.iconst 1, 1) := by decide +kernel
theorem dX0_majority_7 : decode cX0_majority 7 = .ok (.iadd, 1) := by decide +kernel
theorem dX0_majority_8 : decode cX0_majority 8 = .ok (.ireturn, 1) := by decide +kernel
set_option maxRecDepth 20000 in
theorem ggX1_init_X4_init : GoodIn wsX1_init wsX4_init := goodIn_r _ [9, 10, 2, 3, 11, 12, 13, 14, 15, 16, 17, 18, 19, 20, 21, 22, 23, 24, 25, 26, 27, 28, 29, 30, 31, 32, 33, 34, 35, 36, 37, 38, 39, 43, 44, 45, 46, 47, 48, 49, 50, 51, 52, 53, 54, 55, 56, 57, 58, 59, 60, 61, 62, 63, 64] (by decide +kernel) (by decide +kernel)
set_option maxRecDepth 20000 in
theorem gX1_init_X4_init_n17 : GoodIn wsX1_init (wsX4_init) := ggX1_init_X4_init
theorem dX1_init_0 : decode cX1_init 0 = .ok (.aload_n 0, 1) := by decide +kernel
theorem dX1_init_1 : decode cX1_init 1 = .ok (.invokespecial 3, 3) := by decide +kernel
theorem dX1_init_4 : decode cX1_init 4 = .ok (.aload_n 0, 1) := by decide +kernel
theorem dX1_init_5 : decode cX1_init 5 = .ok (.bipush 6, 2) := by decide +kernel
theorem dX1_init_7 : decode cX1_init 7 = .ok (.anewarray 11, 3) := by decide +kernel
theorem dX1_init_10 : decode cX1_init 10 = .ok (.putfield 13, 3) := by decide +kernel
theorem dX1_init_13 : decode cX1_init 13 = .ok (.iconst 0, 1) := by decide +kernel
theorem dX1_init_14 : decode cX1_init 14 = .ok (.istore_n 1, 1) := by decide +kernel
theorem dX1_init_15 : decode cX1_init 15 = .ok (.iload_n 1, 1) := by decide +kernel
theorem dX1_init_16 : decode cX1_init 16 = .ok (.bipush 6, 2) := by decide +kernel
theorem dX1_init_18 : decode cX1_init 18 = .ok (.if_icmp .ge 22, 3) := by decide +kernel
theorem dX1_init_21 : decode cX1_init 21 = .ok (.aload_n 0, 1) := by decide +kernel
theorem dX1_init_22 : decode cX1_init 22 = .ok (.getfield 13, 3) := by decide +kernel
theorem dX1_init_25 : decode cX1_init 25 = .ok (.iload_n 1, 1) := by decide +kernel
theorem dX1_init_26 : decode cX1_init 26 = .ok (.new 11, 3) := by decide +kernel
theorem dX1_init_29 : decode cX1_init 29 = .ok (.dup, 1) := by decide +kernel
theorem dX1_init_30 : decode cX1_init 30 = .ok (.invokespecial 17, 3) := by decide +kernel
theorem dX1_init_33 : decode cX1_init 33 = .ok (.aastore, 1) := by decide +kernel
theorem dX1_init_34 : decode cX1_init 34 = .ok (.iinc 1 1, 3) := by decide +kernel
theorem dX1_init_37 : decode cX1_init 37 = .ok (.goto (-22), 3) := by decide +kernel
theorem dX1_init_40 : decode cX1_init 40 = .ok (.return_, 1) := by decide +kernel
theorem dX1_length_0 : decode cX1_length 0 = .ok (.aload_n 0, 1) := by decide +kernel
theorem dX1_length_1 : decode cX1_length 1 = .ok (.getfield 18, 3) := by decide +kernel
theorem dX1_length_4 : decode cX1_length 4 = .ok (.ireturn, 1) := by decide +kernel
set_option maxRecDepth 20000 in
theorem ggX1_note_X4_copyFrom : GoodIn wsX1_note wsX4_copyFrom := goodIn_r _ [7, 8, 9, 10, 11, 12, 13, 14, 15, 16, 17, 18, 19, 20, 21, 22, 23, 24, 25, 26, 27, 28, 29, 30, 31, 32, 33, 34, 35, 36, 37, 38, 39, 40, 41, 42, 43, 44, 45, 49, 50, 51, 52, 53, 54, 55, 56, 57, 58, 59, 60, 61, 62, 63, 64, 65, 66, 67, 68, 69, 70] (by decide +kernel) (by decide +kernel)
set_option maxRecDepth 20000 in
theorem gX1_note_X4_copyFrom : GoodIn wsX1_note (wsV RX1 25 RX4 yX4_copyFrom wsX4_copyFrom) := goodIn_app (goodIn_of _ (by decide +kernel)) ggX1_note_X4_copyFrom
theorem dX1_note_0 : decode cX1_note 0 = .ok (.aload_n 0, 1) := by decide +kernel
theorem dX1_note_1 : decode cX1_note 1 = .ok (.getfield 13, 3) := by decide +kernel
theorem dX1_note_4 : decode cX1_note 4 = .ok (.aload_n 0, 1) := by decide +kernel
theorem dX1_note_5 : decode cX1_note 5 = .ok (.getfield 22, 3) := by decide +kernel
theorem dX1_note_8 : decode cX1_note 8 = .ok (.aaload, 1) := by decide +kernel
theorem dX1_note_9 : decode cX1_note 9 = .ok (.aload_n 1, 1) := by decide +kernel
theorem dX1_note_10 : decode cX1_note 10 = .ok (.invokevirtual 25, 3) := by decide +kernel
theorem dX1_note_13 : decode cX1_note 13 = .ok (.return_, 1) := by decide +kernel
theorem dX1_keep_0 : decode cX1_keep 0 = .ok (.aload_n 0, 1) := by decide +kernel
theorem dX1_keep_1 : decode cX1_keep 1 = .ok (.aload_n 0, 1) := by decide +kernel
theorem dX1_keep_2 : decode cX1_keep 2 = .ok (.getfield 22, 3) := by decide +kernel
theorem dX1_keep_5 : decode cX1_keep 5 = .ok (.iconst 1, 1) := by decide +kernel
theorem dX1_keep_6 : decode cX1_keep 6 = .ok (.iadd, 1) := by decide +kernel
theorem dX1_keep_7 : decode cX1_keep 7 = .ok (.bipush 6, 2) := by decide +kernel
theorem dX1_keep_9 : decode cX1_keep 9 = .ok (.irem, 1) := by decide +kernel
theorem dX1_keep_10 : decode cX1_keep 10 = .ok (.putfield 22, 3) := by decide +kernel
theorem dX1_keep_13 : decode cX1_keep 13 = .ok (.aload_n 0, 1) := by decide +kernel
theorem dX1_keep_14 : decode cX1_keep 14 = .ok (.aload_n 0, 1) := by decide +kernel
theorem dX1_keep_15 : decode cX1_keep 15 = .ok (.getfield 18, 3) := by decide +kernel
theorem dX1_keep_18 : decode cX1_keep 18 = .ok (.iconst 1, 1) := by decide +kernel
theorem dX1_keep_19 : decode cX1_keep 19 = .ok (.iadd, 1) := by decide +kernel
theorem dX1_keep_20 : decode cX1_keep 20 = .ok (.iconst 5, 1) := by decide +kernel
theorem dX1_keep_21 : decode cX1_keep 21 = .ok (.invokestatic 29, 3) := by decide +kernel
theorem dX1_keep_24 : decode cX1_keep 24 = .ok (.putfield 18, 3) := by decide +kernel
theorem dX1_keep_27 : decode cX1_keep 27 = .ok (.return_, 1) := by decide +kernel
theorem dX2_init_0 : decode cX2_init 0 = .ok (.aload_n 0, 1) := by decide +kernel
theorem dX2_init_1 : decode cX2_init 1 = .ok (.invokespecial 3, 3) := by decide +kernel
theorem dX2_init_4 : decode cX2_init 4 = .ok (.aload_n 0, 1) := by decide +kernel
theorem dX2_init_5 : decode cX2_init 5 = .ok (.iconst 1, 1) := by decide +kernel
theorem dX2_init_6 : decode cX2_init 6 = .ok (.putfield 9, 3) := by decide +kernel
theorem dX2_init_9 : decode cX2_init 9 = .ok (.aload_n 0, 1) := by decide +kernel
theorem dX2_init_10 : decode cX2_init 10 = .ok (.bipush 60, 2) := by decide +kernel
theorem dX2_init_12 : decode cX2_init 12 = .ok (.newarray .int, 2) := by decide +kernel
theorem dX2_init_14 : decode cX2_init 14 = .ok (.putfield 15, 3) := by decide +kernel
theorem dX2_init_17 : decode cX2_init 17 = .ok (.aload_n 0, 1) := by decide +kernel
theorem dX2_init_18 : decode cX2_init 18 = .ok (.bipush 60, 2) := by decide +kernel
theorem dX2_init_20 : decode cX2_init 20 = .ok (.newarray .int, 2) := by decide +kernel
theorem dX2_init_22 : decode cX2_init 22 = .ok (.putfield 19, 3) := by decide +kernel
theorem dX2_init_25 : decode cX2_init 25 = .ok (.aload_n 0, 1) := by decide +kernel
theorem dX2_init_26 : decode cX2_init 26 = .ok (.bipush 60, 2) := by decide +kernel
theorem dX2_init_28 : decode cX2_init 28 = .ok (.newarray .int, 2) := by decide +kernel
theorem dX2_init_30 : decode cX2_init 30 = .ok (.putfield 22, 3) := by decide +kernel
theorem dX2_init_33 : decode cX2_init 33 = .ok (.aload_n 0, 1) := by decide +kernel
theorem dX2_init_34 : decode cX2_init 34 = .ok (.bipush 60, 2) := by decide +kernel
theorem dX2_init_36 : decode cX2_init 36 = .ok (.newarray .int, 2) := by decide +kernel
theorem dX2_init_38 : decode cX2_init 38 = .ok (.putfield 25, 3) := by decide +kernel
theorem dX2_init_41 : decode cX2_init 41 = .ok (.aload_n 0, 1) := by decide +kernel
theorem dX2_init_42 : decode cX2_init 42 = .ok (.bipush 60, 2) := by decide +kernel
theorem dX2_init_44 : decode cX2_init 44 = .ok (.newarray .int, 2) := by decide +kernel
theorem dX2_init_46 : decode cX2_init 46 = .ok (.putfield 28, 3) := by decide +kernel
theorem dX2_init_49 : decode cX2_init 49 = .ok (.return_, 1) := by decide +kernel
theorem dX2_after_0 : decode cX2_after 0 = .ok (.iload_n 0, 1) := by decide +kernel
theorem dX2_after_1 : decode cX2_after 1 = .ok (.sipush 25173, 3) := by decide +kernel
theorem dX2_after_4 : decode cX2_after 4 = .ok (.imul, 1) := by decide +kernel
theorem dX2_after_5 : decode cX2_after 5 = .ok (.sipush 13849, 3) := by decide +kernel
theorem dX2_after_8 : decode cX2_after 8 = .ok (.iadd, 1) := by decide +kernel
theorem dX2_after_9 : decode cX2_after 9 = .ok (.ldc 31, 2) := by decide +kernel
theorem dX2_after_11 : decode cX2_after 11 = .ok (.irem, 1) := by decide +kernel
theorem dX2_after_12 : decode cX2_after 12 = .ok (.ireturn, 1) := by decide +kernel
theorem dX2_copyFrom_0 : decode cX2_copyFrom 0 = .ok (.aload_n 0, 1) := by decide +kernel
theorem dX2_copyFrom_1 : decode cX2_copyFrom 1 = .ok (.aload_n 1, 1) := by decide +kernel
theorem dX2_copyFrom_2 : decode cX2_copyFrom 2 = .ok (.getfield 9, 3) := by decide +kernel
theorem dX2_copyFrom_5 : decode cX2_copyFrom 5 = .ok (.putfield 9, 3) := by decide +kernel
theorem dX2_copyFrom_8 : decode cX2_copyFrom 8 = .ok (.aload_n 0, 1) := by decide +kernel
theorem dX2_copyFrom_9 : decode cX2_copyFrom 9 = .ok (.aload_n 1, 1) := by decide +kernel
theorem dX2_copyFrom_10 : decode cX2_copyFrom 10 = .ok (.getfield 32, 3) := by decide +kernel
theorem dX2_copyFrom_13 : decode cX2_copyFrom 13 = .ok (.putfield 32, 3) := by decide +kernel
theorem dX2_copyFrom_16 : decode cX2_copyFrom 16 = .ok (.aload_n 1, 1) := by decide +kernel
theorem dX2_copyFrom_17 : decode cX2_copyFrom 17 = .ok (.getfield 15, 3) := by decide +kernel
theorem dX2_copyFrom_20 : decode cX2_copyFrom 20 = .ok (.iconst 0, 1) := by decide +kernel
theorem dX2_copyFrom_21 : decode cX2_copyFrom 21 = .ok (.aload_n 0, 1) := by decide +kernel
theorem dX2_copyFrom_22 : decode cX2_copyFrom 22 = .ok (.getfield 15, 3) := by decide +kernel
theorem dX2_copyFrom_25 : decode cX2_copyFrom 25 = .ok (.iconst 0, 1) := by decide +kernel
theorem dX2_copyFrom_26 : decode cX2_copyFrom 26 = .ok (.bipush 60, 2) := by decide +kernel
theorem dX2_copyFrom_28 : decode cX2_copyFrom 28 = .ok (.invokestatic 35, 3) := by decide +kernel
theorem dX2_copyFrom_31 : decode cX2_copyFrom 31 = .ok (.aload_n 1, 1) := by decide +kernel
theorem dX2_copyFrom_32 : decode cX2_copyFrom 32 = .ok (.getfield 19, 3) := by decide +kernel
theorem dX2_copyFrom_35 : decode cX2_copyFrom 35 = .ok (.iconst 0, 1) := by decide +kernel
theorem dX2_copyFrom_36 : decode cX2_copyFrom 36 = .ok (.aload_n 0, 1) := by decide +kernel
theorem dX2_copyFrom_37 : decode cX2_copyFrom 37 = .ok (.getfield 19, 3) := by decide +kernel
theorem dX2_copyFrom_40 : decode cX2_copyFrom 40 = .ok (.iconst 0, 1) := by decide +kernel
theorem dX2_copyFrom_41 : decode cX2_copyFrom 41 = .ok (.bipush 60, 2) := by decide +kernel
theorem dX2_copyFrom_43 : decode cX2_copyFrom 43 = .ok (.invokestatic 35, 3) := by decide +kernel
theorem dX2_copyFrom_46 : decode cX2_copyFrom 46 = .ok (.aload_n 1, 1) := by decide +kernel
theorem dX2_copyFrom_47 : decode cX2_copyFrom 47 = .ok (.getfield 22, 3) := by decide +kernel
theorem dX2_copyFrom_50 : decode cX2_copyFrom 50 = .ok (.iconst 0, 1) := by decide +kernel
theorem dX2_copyFrom_51 : decode cX2_copyFrom 51 = .ok (.aload_n 0, 1) := by decide +kernel
theorem dX2_copyFrom_52 : decode cX2_copyFrom 52 = .ok (.getfield 22, 3) := by decide +kernel
theorem dX2_copyFrom_55 : decode cX2_copyFrom 55 = .ok (.iconst 0, 1) := by decide +kernel
theorem dX2_copyFrom_56 : decode cX2_copyFrom 56 = .ok (.bipush 60, 2) := by decide +kernel
theorem dX2_copyFrom_58 : decode cX2_copyFrom 58 = .ok (.invokestatic 35, 3) := by decide +kernel
theorem dX2_copyFrom_61 : decode cX2_copyFrom 61 = .ok (.aload_n 1, 1) := by decide +kernel
theorem dX2_copyFrom_62 : decode cX2_copyFrom 62 = .ok (.getfield 25, 3) := by decide +kernel
theorem dX2_copyFrom_65 : decode cX2_copyFrom 65 = .ok (.iconst 0, 1) := by decide +kernel
theorem dX2_copyFrom_66 : decode cX2_copyFrom 66 = .ok (.aload_n 0, 1) := by decide +kernel
theorem dX2_copyFrom_67 : decode cX2_copyFrom 67 = .ok (.getfield 25, 3) := by decide +kernel
theorem dX2_copyFrom_70 : decode cX2_copyFrom 70 = .ok (.iconst 0, 1) := by decide +kernel
theorem dX2_copyFrom_71 : decode cX2_copyFrom 71 = .ok (.bipush 60, 2) := by decide +kernel
theorem dX2_copyFrom_73 : decode cX2_copyFrom 73 = .ok (.invokestatic 35, 3) := by decide +kernel
theorem dX2_copyFrom_76 : decode cX2_copyFrom 76 = .ok (.aload_n 1, 1) := by decide +kernel
theorem dX2_copyFrom_77 : decode cX2_copyFrom 77 = .ok (.getfield 28, 3) := by decide +kernel
theorem dX2_copyFrom_80 : decode cX2_copyFrom 80 = .ok (.iconst 0, 1) := by decide +kernel
theorem dX2_copyFrom_81 : decode cX2_copyFrom 81 = .ok (.aload_n 0, 1) := by decide +kernel
theorem dX2_copyFrom_82 : decode cX2_copyFrom 82 = .ok (.getfield 28, 3) := by decide +kernel
theorem dX2_copyFrom_85 : decode cX2_copyFrom 85 = .ok (.iconst 0, 1) := by decide +kernel
theorem dX2_copyFrom_86 : decode cX2_copyFrom 86 = .ok (.bipush 60, 2) := by decide +kernel
theorem dX2_copyFrom_88 : decode cX2_copyFrom 88 = .ok (.invokestatic 35, 3) := by decide +kernel
theorem dX2_copyFrom_91 : decode cX2_copyFrom 91 = .ok (.return_, 1) := by decide +kernel
theorem dX2_state_0 : decode cX2_state 0 = .ok (.aload_n 0, 1) := by decide +kernel
theorem dX2_state_1 : decode cX2_state 1 = .ok (.getfield 9, 3) := by decide +kernel
theorem dX2_state_4 : decode cX2_state 4 = .ok (.ireturn, 1) := by decide +kernel
theorem dX2_setState_0 : decode cX2_setState 0 = .ok (.aload_n 0, 1) := by decide +kernel
theorem dX2_setState_1 : decode cX2_setState 1 = .ok (.getfield 9, 3) := by decide +kernel
theorem dX2_setState_4 : decode cX2_setState 4 = .ok (.istore_n 2, 1) := by decide +kernel
theorem dX2_setState_5 : decode cX2_setState 5 = .ok (.aload_n 0, 1) := by decide +kernel
theorem dX2_setState_6 : decode cX2_setState 6 = .ok (.iload_n 1, 1) := by decide +kernel
theorem dX2_setState_7 : decode cX2_setState 7 = .ok (.putfield 9, 3) := by decide +kernel
theorem dX2_setState_10 : decode cX2_setState 10 = .ok (.iload_n 2, 1) := by decide +kernel
theorem dX2_setState_11 : decode cX2_setState 11 = .ok (.ireturn, 1) := by decide +kernel
theorem dX2_draws_0 : decode cX2_draws 0 = .ok (.aload_n 0, 1) := by decide +kernel
theorem dX2_draws_1 : decode cX2_draws 1 = .ok (.getfield 32, 3) := by decide +kernel
theorem dX2_draws_4 : decode cX2_draws 4 = .ok (.ireturn, 1) := by decide +kernel
set_option maxRecDepth 20000 in
theorem ggX2_write_X2_after : GoodIn wsX2_write wsX2_after := goodIn_r _ [11, 12] (by decide +kernel) (by decide +kernel)
set_option maxRecDepth 20000 in
theorem gX2_write_X2_after : GoodIn wsX2_write (va_wsS RX2 41 yX2_after wsX2_after) := goodIn_app (goodIn_of _ (by decide +kernel)) ggX2_write_X2_after
theorem dX2_write_0 : decode cX2_write 0 = .ok (.aload_n 0, 1) := by decide +kernel
theorem dX2_write_1 : decode cX2_write 1 = .ok (.getfield 32, 3) := by decide +kernel
theorem dX2_write_4 : decode cX2_write 4 = .ok (.bipush 60, 2) := by decide +kernel
theorem dX2_write_6 : decode cX2_write 6 = .ok (.if_icmp .lt 4, 3) := by decide +kernel
theorem dX2_write_9 : decode cX2_write 9 = .ok (.return_, 1) := by decide +kernel
theorem dX2_write_10 : decode cX2_write 10 = .ok (.aload_n 0, 1) := by decide +kernel
theorem dX2_write_11 : decode cX2_write 11 = .ok (.getfield 15, 3) := by decide +kernel
theorem dX2_write_14 : decode cX2_write 14 = .ok (.aload_n 0, 1) := by decide +kernel
theorem dX2_write_15 : decode cX2_write 15 = .ok (.getfield 32, 3) := by decide +kernel
theorem dX2_write_18 : decode cX2_write 18 = .ok (.aload_n 0, 1) := by decide +kernel
theorem dX2_write_19 : decode cX2_write 19 = .ok (.getfield 9, 3) := by decide +kernel
theorem dX2_write_22 : decode cX2_write 22 = .ok (.iastore, 1) := by decide +kernel
theorem dX2_write_23 : decode cX2_write 23 = .ok (.aload_n 0, 1) := by decide +kernel
theorem dX2_write_24 : decode cX2_write 24 = .ok (.getfield 19, 3) := by decide +kernel
theorem dX2_write_27 : decode cX2_write 27 = .ok (.aload_n 0, 1) := by decide +kernel
theorem dX2_write_28 : decode cX2_write 28 = .ok (.getfield 32, 3) := by decide +kernel
theorem dX2_write_31 : decode cX2_write 31 = .ok (.iload_n 1, 1) := by decide +kernel
theorem dX2_write_32 : decode cX2_write 32 = .ok (.iastore, 1) := by decide +kernel
theorem dX2_write_33 : decode cX2_write 33 = .ok (.aload_n 0, 1) := by decide +kernel
theorem dX2_write_34 : decode cX2_write 34 = .ok (.getfield 22, 3) := by decide +kernel
theorem dX2_write_37 : decode cX2_write 37 = .ok (.aload_n 0, 1) := by decide +kernel
theorem dX2_write_38 : decode cX2_write 38 = .ok (.getfield 32, 3) := by decide +kernel
theorem dX2_write_41 : decode cX2_write 41 = .ok (.iload_n 2, 1) := by decide +kernel
theorem dX2_write_42 : decode cX2_write 42 = .ok (.iastore, 1) := by decide +kernel
theorem dX2_write_43 : decode cX2_write 43 = .ok (.aload_n 0, 1) := by decide +kernel
theorem dX2_write_44 : decode cX2_write 44 = .ok (.getfield 25, 3) := by decide +kernel
theorem dX2_write_47 : decode cX2_write 47 = .ok (.aload_n 0, 1) := by decide +kernel
theorem dX2_write_48 : decode cX2_write 48 = .ok (.getfield 32, 3) := by decide +kernel
theorem dX2_write_51 : decode cX2_write 51 = .ok (.iload_n 2, 1) := by decide +kernel
theorem dX2_write_52 : decode cX2_write 52 = .ok (.iastore, 1) := by decide +kernel
theorem dX2_write_53 : decode cX2_write 53 = .ok (.aload_n 0, 1) := by decide +kernel
theorem dX2_write_54 : decode cX2_write 54 = .ok (.getfield 28, 3) := by decide +kernel
theorem dX2_write_57 : decode cX2_write 57 = .ok (.aload_n 0, 1) := by decide +kernel
theorem dX2_write_58 : decode cX2_write 58 = .ok (.getfield 32, 3) := by decide +kernel
theorem dX2_write_61 : decode cX2_write 61 = .ok (.iload_n 3, 1) := by decide +kernel
theorem dX2_write_62 : decode cX2_write 62 = .ok (.iastore, 1) := by decide +kernel
theorem dX2_write_63 : decode cX2_write 63 = .ok (.aload_n 0, 1) := by decide +kernel
theorem dX2_write_64 : decode cX2_write 64 = .ok (.dup, 1) := by decide +kernel
theorem dX2_write_65 : decode cX2_write 65 = .ok (.getfield 32, 3) := by decide +kernel
theorem dX2_write_68 : decode cX2_write 68 = .ok (.iconst 1, 1) := by decide +kernel
theorem dX2_write_69 : decode cX2_write 69 = .ok (.iadd, 1) := by decide +kernel
theorem dX2_write_70 : decode cX2_write 70 = .ok (.putfield 32, 3) := by decide +kernel
theorem dX2_write_73 : decode cX2_write 73 = .ok (.aload_n 0, 1) := by decide +kernel
theorem dX2_write_74 : decode cX2_write 74 = .ok (.aload_n 0, 1) := by decide +kernel
theorem dX2_write_75 : decode cX2_write 75 = .ok (.getfield 9, 3) := by decide +kernel
theorem dX2_write_78 : decode cX2_write 78 = .ok (.invokestatic 41, 3) := by decide +kernel
theorem dX2_write_81 : decode cX2_write 81 = .ok (.putfield 9, 3) := by decide +kernel
theorem dX2_write_84 : decode cX2_write 84 = .ok (.return_, 1) := by decide +kernel
theorem dX2_forgeLast_0 : decode cX2_forgeLast 0 = .ok (.aload_n 0, 1) := by decide +kernel
theorem dX2_forgeLast_1 : decode cX2_forgeLast 1 = .ok (.getfield 32, 3) := by decide +kernel
theorem dX2_forgeLast_4 : decode cX2_forgeLast 4 = .ok (.ifCond .le 15, 3) := by decide +kernel
theorem dX2_forgeLast_7 : decode cX2_forgeLast 7 = .ok (.aload_n 0, 1) := by decide +kernel
theorem dX2_forgeLast_8 : decode cX2_forgeLast 8 = .ok (.getfield 25, 3) := by decide +kernel
theorem dX2_forgeLast_11 : decode cX2_forgeLast 11 = .ok (.aload_n 0, 1) := by decide +kernel
theorem dX2_forgeLast_12 : decode cX2_forgeLast 12 = .ok (.getfield 32, 3) := by decide +kernel
theorem dX2_forgeLast_15 : decode cX2_forgeLast 15 = .ok (.iconst 1, 1) := by decide +kernel
theorem dX2_forgeLast_16 : decode cX2_forgeLast 16 = .ok (.isub, 1) := by decide +kernel
theorem dX2_forgeLast_17 : decode cX2_forgeLast 17 = .ok (.iload_n 1, 1) := by decide +kernel
theorem dX2_forgeLast_18 : decode cX2_forgeLast 18 = .ok (.iastore, 1) := by decide +kernel
theorem dX2_forgeLast_19 : decode cX2_forgeLast 19 = .ok (.return_, 1) := by decide +kernel
theorem dX2_lastSeat_0 : decode cX2_lastSeat 0 = .ok (.aload_n 0, 1) := by decide +kernel
theorem dX2_lastSeat_1 : decode cX2_lastSeat 1 = .ok (.getfield 32, 3) := by decide +kernel
theorem dX2_lastSeat_4 : decode cX2_lastSeat 4 = .ok (.ifCond .le 17, 3) := by decide +kernel
theorem dX2_lastSeat_7 : decode cX2_lastSeat 7 = .ok (.aload_n 0, 1) := by decide +kernel
theorem dX2_lastSeat_8 : decode cX2_lastSeat 8 = .ok (.getfield 28, 3) := by decide +kernel
theorem dX2_lastSeat_11 : decode cX2_lastSeat 11 = .ok (.aload_n 0, 1) := by decide +kernel
theorem dX2_lastSeat_12 : decode cX2_lastSeat 12 = .ok (.getfield 32, 3) := by decide +kernel
theorem dX2_lastSeat_15 : decode cX2_lastSeat 15 = .ok (.iconst 1, 1) := by decide +kernel
theorem dX2_lastSeat_16 : decode cX2_lastSeat 16 = .ok (.isub, 1) := by decide +kernel
theorem dX2_lastSeat_17 : decode cX2_lastSeat 17 = .ok (.iaload, 1) := by decide +kernel
theorem dX2_lastSeat_18 : decode cX2_lastSeat 18 = .ok (.goto 5, 3) := by decide +kernel
theorem dX2_lastSeat_21 : decode cX2_lastSeat 21 = .ok (.bipush (-9), 2) := by decide +kernel
theorem dX2_lastSeat_23 : decode cX2_lastSeat 23 = .ok (.ireturn, 1) := by decide +kernel
set_option maxRecDepth 20000 in
theorem ggX2_forgedDraws_X2_isForged : GoodIn wsX2_forgedDraws wsX2_isForged := goodIn_r _ [6, 1, 7, 8, 9, 10, 11, 12, 13, 14, 15] (by decide +kernel) (by decide +kernel)
set_option maxRecDepth 20000 in
theorem gX2_forgedDraws_X2_isForged : GoodIn wsX2_forgedDraws (wsV RX2 45 RX2 yX2_isForged wsX2_isForged) := goodIn_app (goodIn_of _ (by decide +kernel)) ggX2_forgedDraws_X2_isForged
theorem dX2_forgedDraws_0 : decode cX2_forgedDraws 0 = .ok (.iconst 0, 1) := by decide +kernel
theorem dX2_forgedDraws_1 : decode cX2_forgedDraws 1 = .ok (.istore_n 1, 1) := by decide +kernel
theorem dX2_forgedDraws_2 : decode cX2_forgedDraws 2 = .ok (.iconst 0, 1) := by decide +kernel
theorem dX2_forgedDraws_3 : decode cX2_forgedDraws 3 = .ok (.istore_n 2, 1) := by decide +kernel
theorem dX2_forgedDraws_4 : decode cX2_forgedDraws 4 = .ok (.iload_n 2, 1) := by decide +kernel
theorem dX2_forgedDraws_5 : decode cX2_forgedDraws 5 = .ok (.aload_n 0, 1) := by decide +kernel
theorem dX2_forgedDraws_6 : decode cX2_forgedDraws 6 = .ok (.getfield 32, 3) := by decide +kernel
theorem dX2_forgedDraws_9 : decode cX2_forgedDraws 9 = .ok (.if_icmp .ge 20, 3) := by decide +kernel
theorem dX2_forgedDraws_12 : decode cX2_forgedDraws 12 = .ok (.aload_n 0, 1) := by decide +kernel
theorem dX2_forgedDraws_13 : decode cX2_forgedDraws 13 = .ok (.iload_n 2, 1) := by decide +kernel
theorem dX2_forgedDraws_14 : decode cX2_forgedDraws 14 = .ok (.invokevirtual 45, 3) := by decide +kernel
theorem dX2_forgedDraws_17 : decode cX2_forgedDraws 17 = .ok (.ifCond .eq 6, 3) := by decide +kernel
theorem dX2_forgedDraws_20 : decode cX2_forgedDraws 20 = .ok (.iinc 1 1, 3) := by decide +kernel
theorem dX2_forgedDraws_23 : decode cX2_forgedDraws 23 = .ok (.iinc 2 1, 3) := by decide +kernel
theorem dX2_forgedDraws_26 : decode cX2_forgedDraws 26 = .ok (.goto (-22), 3) := by decide +kernel
theorem dX2_forgedDraws_29 : decode cX2_forgedDraws 29 = .ok (.iload_n 1, 1) := by decide +kernel
theorem dX2_forgedDraws_30 : decode cX2_forgedDraws 30 = .ok (.ireturn, 1) := by decide +kernel
theorem dX2_drawsOf_0 : decode cX2_drawsOf 0 = .ok (.iconst 0, 1) := by decide +kernel
theorem dX2_drawsOf_1 : decode cX2_drawsOf 1 = .ok (.istore_n 2, 1) := by decide +kernel
theorem dX2_drawsOf_2 : decode cX2_drawsOf 2 = .ok (.iconst 0, 1) := by decide +kernel
theorem dX2_drawsOf_3 : decode cX2_drawsOf 3 = .ok (.istore_n 3, 1) := by decide +kernel
theorem dX2_drawsOf_4 : decode cX2_drawsOf 4 = .ok (.iload_n 3, 1) := by decide +kernel
theorem dX2_drawsOf_5 : decode cX2_drawsOf 5 = .ok (.aload_n 0, 1) := by decide +kernel
theorem dX2_drawsOf_6 : decode cX2_drawsOf 6 = .ok (.getfield 32, 3) := by decide +kernel
theorem dX2_drawsOf_9 : decode cX2_drawsOf 9 = .ok (.if_icmp .ge 22, 3) := by decide +kernel
theorem dX2_drawsOf_12 : decode cX2_drawsOf 12 = .ok (.aload_n 0, 1) := by decide +kernel
theorem dX2_drawsOf_13 : decode cX2_drawsOf 13 = .ok (.getfield 25, 3) := by decide +kernel
theorem dX2_drawsOf_16 : decode cX2_drawsOf 16 = .ok (.iload_n 3, 1) := by decide +kernel
theorem dX2_drawsOf_17 : decode cX2_drawsOf 17 = .ok (.iaload, 1) := by decide +kernel
theorem dX2_drawsOf_18 : decode cX2_drawsOf 18 = .ok (.iload_n 1, 1) := by decide +kernel
theorem dX2_drawsOf_19 : decode cX2_drawsOf 19 = .ok (.if_icmp .ne 6, 3) := by decide +kernel
theorem dX2_drawsOf_22 : decode cX2_drawsOf 22 = .ok (.iinc 2 1, 3) := by decide +kernel
theorem dX2_drawsOf_25 : decode cX2_drawsOf 25 = .ok (.iinc 3 1, 3) := by decide +kernel
theorem dX2_drawsOf_28 : decode cX2_drawsOf 28 = .ok (.goto (-24), 3) := by decide +kernel
theorem dX2_drawsOf_31 : decode cX2_drawsOf 31 = .ok (.iload_n 2, 1) := by decide +kernel
theorem dX2_drawsOf_32 : decode cX2_drawsOf 32 = .ok (.ireturn, 1) := by decide +kernel
set_option maxRecDepth 20000 in
theorem ggX2_about_X2_isForged : GoodIn wsX2_about wsX2_isForged := goodIn_r _ [10, 1, 4, 11, 12, 13, 14, 15, 16, 17, 18] (by decide +kernel) (by decide +kernel)
set_option maxRecDepth 20000 in
theorem gX2_about_X2_isForged : GoodIn wsX2_about (wsV RX2 45 RX2 yX2_isForged wsX2_isForged) := goodIn_app (goodIn_of _ (by decide +kernel)) ggX2_about_X2_isForged
theorem dX2_about_0 : decode cX2_about 0 = .ok (.iload_n 1, 1) := by decide +kernel
theorem dX2_about_1 : decode cX2_about 1 = .ok (.ifCond .lt 11, 3) := by decide +kernel
theorem dX2_about_4 : decode cX2_about 4 = .ok (.iload_n 1, 1) := by decide +kernel
theorem dX2_about_5 : decode cX2_about 5 = .ok (.aload_n 0, 1) := by decide +kernel
theorem dX2_about_6 : decode cX2_about 6 = .ok (.getfield 32, 3) := by decide +kernel
theorem dX2_about_9 : decode cX2_about 9 = .ok (.if_icmp .lt 5, 3) := by decide +kernel
theorem dX2_about_12 : decode cX2_about 12 = .ok (.iconst (-1), 1) := by decide +kernel
theorem dX2_about_13 : decode cX2_about 13 = .ok (.ireturn, 1) := by decide +kernel
theorem dX2_about_14 : decode cX2_about 14 = .ok (.iload_n 2, 1) := by decide +kernel
theorem dX2_about_15 : decode cX2_about 15 = .ok (.tableswitch 75 0 4 #[33, 40, 47, 54, 68], 33) := by decide +kernel
theorem dX2_about_48 : decode cX2_about 48 = .ok (.aload_n 0, 1) := by decide +kernel
theorem dX2_about_49 : decode cX2_about 49 = .ok (.getfield 15, 3) := by decide +kernel
theorem dX2_about_52 : decode cX2_about 52 = .ok (.iload_n 1, 1) := by decide +kernel
theorem dX2_about_53 : decode cX2_about 53 = .ok (.iaload, 1) := by decide +kernel
theorem dX2_about_54 : decode cX2_about 54 = .ok (.ireturn, 1) := by decide +kernel
theorem dX2_about_55 : decode cX2_about 55 = .ok (.aload_n 0, 1) := by decide +kernel
theorem dX2_about_56 : decode cX2_about 56 = .ok (.getfield 19, 3) := by decide +kernel
theorem dX2_about_59 : decode cX2_about 59 = .ok (.iload_n 1, 1) := by decide +kernel
theorem dX2_about_60 : decode cX2_about 60 = .ok (.iaload, 1) := by decide +kernel
theorem dX2_about_61 : decode cX2_about 61 = .ok (.ireturn, 1) := by decide +kernel
theorem dX2_about_62 : decode cX2_about 62 = .ok (.aload_n 0, 1) := by decide +kernel
theorem dX2_about_63 : decode cX2_about 63 = .ok (.getfield 25, 3) := by decide +kernel
theorem dX2_about_66 : decode cX2_about 66 = .ok (.iload_n 1, 1) := by decide +kernel
theorem dX2_about_67 : decode cX2_about 67 = .ok (.iaload, 1) := by decide +kernel
theorem dX2_about_68 : decode cX2_about 68 = .ok (.ireturn, 1) := by decide +kernel
theorem dX2_about_69 : decode cX2_about 69 = .ok (.aload_n 0, 1) := by decide +kernel
theorem dX2_about_70 : decode cX2_about 70 = .ok (.iload_n 1, 1) := by decide +kernel
theorem dX2_about_71 : decode cX2_about 71 = .ok (.invokevirtual 45, 3) := by decide +kernel
theorem dX2_about_74 : decode cX2_about 74 = .ok (.ifCond .eq 7, 3) := by decide +kernel
theorem dX2_about_77 : decode cX2_about 77 = .ok (.iconst 1, 1) := by decide +kernel
theorem dX2_about_78 : decode cX2_about 78 = .ok (.goto 4, 3) := by decide +kernel
theorem dX2_about_81 : decode cX2_about 81 = .ok (.iconst 0, 1) := by decide +kernel
theorem dX2_about_82 : decode cX2_about 82 = .ok (.ireturn, 1) := by decide +kernel
theorem dX2_about_83 : decode cX2_about 83 = .ok (.aload_n 0, 1) := by decide +kernel
theorem dX2_about_84 : decode cX2_about 84 = .ok (.getfield 28, 3) := by decide +kernel
theorem dX2_about_87 : decode cX2_about 87 = .ok (.iload_n 1, 1) := by decide +kernel
theorem dX2_about_88 : decode cX2_about 88 = .ok (.iaload, 1) := by decide +kernel
theorem dX2_about_89 : decode cX2_about 89 = .ok (.ireturn, 1) := by decide +kernel
theorem dX2_about_90 : decode cX2_about 90 = .ok (.iconst (-1), 1) := by decide +kernel
theorem dX2_about_91 : decode cX2_about 91 = .ok (.ireturn, 1) := by decide +kernel
theorem dX2_isForged_0 : decode cX2_isForged 0 = .ok (.iload_n 1, 1) := by decide +kernel
theorem dX2_isForged_1 : decode cX2_isForged 1 = .ok (.ifCond .lt 30, 3) := by decide +kernel
theorem dX2_isForged_4 : decode cX2_isForged 4 = .ok (.iload_n 1, 1) := by decide +kernel
theorem dX2_isForged_5 : decode cX2_isForged 5 = .ok (.aload_n 0, 1) := by decide +kernel
theorem dX2_isForged_6 : decode cX2_isForged 6 = .ok (.getfield 32, 3) := by decide +kernel
theorem dX2_isForged_9 : decode cX2_isForged 9 = .ok (.if_icmp .ge 22, 3) := by decide +kernel
theorem dX2_isForged_12 : decode cX2_isForged 12 = .ok (.aload_n 0, 1) := by decide +kernel
theorem dX2_isForged_13 : decode cX2_isForged 13 = .ok (.getfield 25, 3) := by decide +kernel
theorem dX2_isForged_16 : decode cX2_isForged 16 = .ok (.iload_n 1, 1) := by decide +kernel
theorem dX2_isForged_17 : decode cX2_isForged 17 = .ok (.iaload, 1) := by decide +kernel
theorem dX2_isForged_18 : decode cX2_isForged 18 = .ok (.aload_n 0, 1) := by decide +kernel
theorem dX2_isForged_19 : decode cX2_isForged 19 = .ok (.getfield 22, 3) := by decide +kernel
theorem dX2_isForged_22 : decode cX2_isForged 22 = .ok (.iload_n 1, 1) := by decide +kernel
theorem dX2_isForged_23 : decode cX2_isForged 23 = .ok (.iaload, 1) := by decide +kernel
theorem dX2_isForged_24 : decode cX2_isForged 24 = .ok (.if_icmp .eq 7, 3) := by decide +kernel
theorem dX2_isForged_27 : decode cX2_isForged 27 = .ok (.iconst 1, 1) := by decide +kernel
theorem dX2_isForged_28 : decode cX2_isForged 28 = .ok (.goto 4, 3) := by decide +kernel
theorem dX2_isForged_31 : decode cX2_isForged 31 = .ok (.iconst 0, 1) := by decide +kernel
theorem dX2_isForged_32 : decode cX2_isForged 32 = .ok (.ireturn, 1) := by decide +kernel
theorem dX3_init_0 : decode cX3_init 0 = .ok (.aload_n 0, 1) := by decide +kernel
theorem dX3_init_1 : decode cX3_init 1 = .ok (.invokespecial 3, 3) := by decide +kernel
theorem dX3_init_4 : decode cX3_init 4 = .ok (.aload_n 0, 1) := by decide +kernel
theorem dX3_init_5 : decode cX3_init 5 = .ok (.bipush 60, 2) := by decide +kernel
theorem dX3_init_7 : decode cX3_init 7 = .ok (.newarray .int, 2) := by decide +kernel
theorem dX3_init_9 : decode cX3_init 9 = .ok (.putfield 9, 3) := by decide +kernel
theorem dX3_init_12 : decode cX3_init 12 = .ok (.return_, 1) := by decide +kernel
theorem dX3_length_0 : decode cX3_length 0 = .ok (.aload_n 0, 1) := by decide +kernel
theorem dX3_length_1 : decode cX3_length 1 = .ok (.getfield 15, 3) := by decide +kernel
theorem dX3_length_4 : decode cX3_length 4 = .ok (.ireturn, 1) := by decide +kernel

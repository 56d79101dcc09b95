set_option maxRecDepth 20000 in
theorem ggX5_init_X4_init : GoodIn wsX5_init wsX4_init := goodIn_r _ [17, 18, 2, 3, 19, 20, 21, 22, 23, 24, 25, 26, 27, 28, 29, 30, 31, 32, 33, 34, 35, 36, 37, 38, 39, 40, 41, 42, 43, 44, 45, 46, 47, 58, 59, 60, 61, 62, 63, 64, 65, 66, 67, 68, 69, 70, 83, 84, 85, 86, 87, 88, 89, 90, 91] (by decide +kernel) (by decide +kernel)
set_option maxRecDepth 20000 in
theorem gX5_init_X4_init_n9 : GoodIn wsX5_init (wsX4_init) := ggX5_init_X4_init
set_option maxRecDepth 20000 in
theorem ggX5_init_X1_init : GoodIn wsX5_init wsX1_init := goodIn_r _ [50, 51, 2, 3, 52, 53, 5, 6, 16, 17, 18, 19, 20, 21, 22, 23, 24, 25, 26, 27, 28, 29, 30, 31, 32, 33, 34, 35, 36, 37, 38, 39, 40, 41, 42, 43, 44, 45, 46, 47, 74, 75, 76, 58, 59, 60, 61, 62, 63, 64, 65, 66, 67, 68, 69, 70, 83, 84, 85, 86, 87, 88, 89, 90, 91] (by decide +kernel) (by decide +kernel)
set_option maxRecDepth 20000 in
theorem gX5_init_X1_init : GoodIn wsX5_init (wsX1_init) := ggX5_init_X1_init
set_option maxRecDepth 20000 in
theorem ggX5_init_X3_init : GoodIn wsX5_init wsX3_init := goodIn_r _ [55, 56, 2, 3, 19, 57, 77, 78, 79, 80, 81, 82] (by decide +kernel) (by decide +kernel)
set_option maxRecDepth 20000 in
theorem gX5_init_X3_init_n25 : GoodIn wsX5_init (wsX3_init) := ggX5_init_X3_init
theorem dX5_init_0 : decode cX5_init 0 = .ok (.aload_n 0, 1) := by decide +kernel
theorem dX5_init_1 : decode cX5_init 1 = .ok (.invokespecial 1, 3) := by decide +kernel
theorem dX5_init_4 : decode cX5_init 4 = .ok (.aload_n 0, 1) := by decide +kernel
theorem dX5_init_5 : decode cX5_init 5 = .ok (.new 7, 3) := by decide +kernel
theorem dX5_init_8 : decode cX5_init 8 = .ok (.dup, 1) := by decide +kernel
theorem dX5_init_9 : decode cX5_init 9 = .ok (.invokespecial 9, 3) := by decide +kernel
theorem dX5_init_12 : decode cX5_init 12 = .ok (.putfield 10, 3) := by decide +kernel
theorem dX5_init_15 : decode cX5_init 15 = .ok (.aload_n 0, 1) := by decide +kernel
theorem dX5_init_16 : decode cX5_init 16 = .ok (.new 16, 3) := by decide +kernel
theorem dX5_init_19 : decode cX5_init 19 = .ok (.dup, 1) := by decide +kernel
theorem dX5_init_20 : decode cX5_init 20 = .ok (.invokespecial 18, 3) := by decide +kernel
theorem dX5_init_23 : decode cX5_init 23 = .ok (.putfield 19, 3) := by decide +kernel
theorem dX5_init_26 : decode cX5_init 26 = .ok (.aload_n 0, 1) := by decide +kernel
theorem dX5_init_27 : decode cX5_init 27 = .ok (.new 23, 3) := by decide +kernel
theorem dX5_init_30 : decode cX5_init 30 = .ok (.dup, 1) := by decide +kernel
theorem dX5_init_31 : decode cX5_init 31 = .ok (.invokespecial 25, 3) := by decide +kernel
theorem dX5_init_34 : decode cX5_init 34 = .ok (.putfield 26, 3) := by decide +kernel
theorem dX5_init_37 : decode cX5_init 37 = .ok (.return_, 1) := by decide +kernel
set_option maxRecDepth 20000 in
theorem ggX5_come_X1_note : GoodIn wsX5_come wsX1_note := goodIn_r _ [7, 8, 9, 10, 11, 12, 13, 14, 15, 16, 17, 18, 19, 20, 21, 22, 23, 24, 25, 26, 27, 28, 29, 30, 31, 32, 33, 34, 35, 36, 37, 38, 39, 40, 41, 42, 43, 44, 45, 46, 47, 48, 49, 50, 51, 52, 74, 75, 76, 77, 78, 79, 80, 81, 82, 83, 84, 85, 86, 87, 88, 89, 90, 91, 92, 93, 94, 95, 96, 97, 98] (by decide +kernel) (by decide +kernel)
set_option maxRecDepth 20000 in
theorem gX5_come_X1_note : GoodIn wsX5_come (wsV RX5 30 RX1 yX1_note wsX1_note) := goodIn_app (goodIn_of _ (by decide +kernel)) ggX5_come_X1_note
set_option maxRecDepth 20000 in
theorem ggX5_come_X4_letCome : GoodIn wsX5_come wsX4_letCome := goodIn_r _ [56, 15, 16, 21, 77, 78, 79, 80, 81, 82, 83, 84, 85, 86, 87, 88, 89] (by decide +kernel) (by decide +kernel)
set_option maxRecDepth 20000 in
theorem gX5_come_X4_letCome : GoodIn wsX5_come (wsV RX5 34 RX4 yX4_letCome wsX4_letCome) := goodIn_app (goodIn_of _ (by decide +kernel)) ggX5_come_X4_letCome
set_option maxRecDepth 20000 in
theorem ggX5_come_X5_kept : GoodIn wsX5_come wsX5_kept := goodIn_r _ [61, 1, 62, 63, 64, 6, 65, 9, 66, 67, 68, 69, 70, 71, 72, 73, 74, 75, 76] (by decide +kernel) (by decide +kernel)
set_option maxRecDepth 20000 in
theorem gX5_come_X5_kept : GoodIn wsX5_come (wsV RX5 38 RX5 yX5_kept wsX5_kept) := goodIn_app (goodIn_of _ (by decide +kernel)) ggX5_come_X5_kept
theorem dX5_come_0 : decode cX5_come 0 = .ok (.aload_n 0, 1) := by decide +kernel
theorem dX5_come_1 : decode cX5_come 1 = .ok (.getfield 19, 3) := by decide +kernel
theorem dX5_come_4 : decode cX5_come 4 = .ok (.aload_n 0, 1) := by decide +kernel
theorem dX5_come_5 : decode cX5_come 5 = .ok (.getfield 10, 3) := by decide +kernel
theorem dX5_come_8 : decode cX5_come 8 = .ok (.invokevirtual 30, 3) := by decide +kernel
theorem dX5_come_11 : decode cX5_come 11 = .ok (.aload_n 0, 1) := by decide +kernel
theorem dX5_come_12 : decode cX5_come 12 = .ok (.aload_n 0, 1) := by decide +kernel
theorem dX5_come_13 : decode cX5_come 13 = .ok (.getfield 10, 3) := by decide +kernel
theorem dX5_come_16 : decode cX5_come 16 = .ok (.invokevirtual 34, 3) := by decide +kernel
theorem dX5_come_19 : decode cX5_come 19 = .ok (.invokevirtual 38, 3) := by decide +kernel
theorem dX5_come_22 : decode cX5_come 22 = .ok (.ireturn, 1) := by decide +kernel
set_option maxRecDepth 20000 in
theorem ggX5_attend_X1_note : GoodIn wsX5_attend wsX1_note := goodIn_r _ [7, 8, 9, 10, 11, 12, 13, 14, 15, 16, 17, 18, 19, 20, 21, 22, 23, 24, 25, 26, 27, 28, 29, 30, 31, 32, 33, 34, 35, 36, 37, 38, 39, 40, 41, 42, 43, 44, 45, 46, 47, 48, 49, 50, 51, 52, 82, 83, 84, 85, 86, 87, 88, 89, 90, 91, 92, 93, 94, 95, 96, 97, 98, 99, 100, 101, 102, 103, 104, 105, 106] (by decide +kernel) (by decide +kernel)
set_option maxRecDepth 20000 in
theorem gX5_attend_X1_note : GoodIn wsX5_attend (wsV RX5 30 RX1 yX1_note wsX1_note) := goodIn_app (goodIn_of _ (by decide +kernel)) ggX5_attend_X1_note
set_option maxRecDepth 20000 in
theorem ggX5_attend_X4_letAttend : GoodIn wsX5_attend wsX4_letAttend := goodIn_r _ [56, 16, 57, 58, 59, 13, 60, 15, 61, 62, 63, 64, 85, 86, 87, 88, 89, 90, 91, 92, 93, 94, 95, 96, 97] (by decide +kernel) (by decide +kernel)
set_option maxRecDepth 20000 in
theorem gX5_attend_X4_letAttend : GoodIn wsX5_attend (wsV RX5 42 RX4 yX4_letAttend wsX4_letAttend) := goodIn_app (goodIn_of _ (by decide +kernel)) ggX5_attend_X4_letAttend
set_option maxRecDepth 20000 in
theorem ggX5_attend_X5_kept : GoodIn wsX5_attend wsX5_kept := goodIn_r _ [69, 1, 70, 71, 72, 6, 73, 9, 74, 75, 76, 77, 78, 79, 80, 81, 82, 83, 84] (by decide +kernel) (by decide +kernel)
set_option maxRecDepth 20000 in
theorem gX5_attend_X5_kept : GoodIn wsX5_attend (wsV RX5 38 RX5 yX5_kept wsX5_kept) := goodIn_app (goodIn_of _ (by decide +kernel)) ggX5_attend_X5_kept
theorem dX5_attend_0 : decode cX5_attend 0 = .ok (.aload_n 0, 1) := by decide +kernel
theorem dX5_attend_1 : decode cX5_attend 1 = .ok (.getfield 19, 3) := by decide +kernel
theorem dX5_attend_4 : decode cX5_attend 4 = .ok (.aload_n 0, 1) := by decide +kernel
theorem dX5_attend_5 : decode cX5_attend 5 = .ok (.getfield 10, 3) := by decide +kernel
theorem dX5_attend_8 : decode cX5_attend 8 = .ok (.invokevirtual 30, 3) := by decide +kernel
theorem dX5_attend_11 : decode cX5_attend 11 = .ok (.aload_n 0, 1) := by decide +kernel
theorem dX5_attend_12 : decode cX5_attend 12 = .ok (.aload_n 0, 1) := by decide +kernel
theorem dX5_attend_13 : decode cX5_attend 13 = .ok (.getfield 10, 3) := by decide +kernel
theorem dX5_attend_16 : decode cX5_attend 16 = .ok (.iload_n 1, 1) := by decide +kernel
theorem dX5_attend_17 : decode cX5_attend 17 = .ok (.iload_n 2, 1) := by decide +kernel
theorem dX5_attend_18 : decode cX5_attend 18 = .ok (.invokevirtual 42, 3) := by decide +kernel
theorem dX5_attend_21 : decode cX5_attend 21 = .ok (.invokevirtual 38, 3) := by decide +kernel
theorem dX5_attend_24 : decode cX5_attend 24 = .ok (.ireturn, 1) := by decide +kernel
set_option maxRecDepth 20000 in
theorem ggX5_found_X1_note : GoodIn wsX5_found wsX1_note := goodIn_r _ [7, 8, 9, 10, 11, 12, 13, 14, 15, 16, 17, 18, 19, 20, 21, 22, 23, 24, 25, 26, 27, 28, 29, 30, 31, 32, 33, 34, 35, 36, 37, 38, 39, 40, 41, 42, 43, 44, 45, 46, 47, 48, 49, 50, 51, 52, 83, 84, 85, 86, 87, 88, 89, 90, 91, 92, 93, 94, 95, 96, 97, 98, 99, 100, 101, 102, 103, 104, 105, 106, 107] (by decide +kernel) (by decide +kernel)
set_option maxRecDepth 20000 in
theorem gX5_found_X1_note : GoodIn wsX5_found (wsV RX5 30 RX1 yX1_note wsX1_note) := goodIn_app (goodIn_of _ (by decide +kernel)) ggX5_found_X1_note
set_option maxRecDepth 20000 in
theorem ggX5_found_X4_setFirstCouncil : GoodIn wsX5_found wsX4_setFirstCouncil := goodIn_r _ [56, 22, 15, 23, 57, 58, 59, 35, 60, 37, 61, 62, 63, 64, 65, 66, 67, 68, 38, 32, 33, 34, 36, 39, 18, 19, 20, 86, 87, 88, 89, 90, 91, 92, 93, 94, 95, 96, 97, 98, 99, 100] (by decide +kernel) (by decide +kernel)
set_option maxRecDepth 20000 in
theorem gX5_found_X4_setFirstCouncil : GoodIn wsX5_found (wsV RX5 46 RX4 yX4_setFirstCouncil wsX4_setFirstCouncil) := goodIn_app (goodIn_of _ (by decide +kernel)) ggX5_found_X4_setFirstCouncil
set_option maxRecDepth 20000 in
theorem ggX5_found_X5_kept : GoodIn wsX5_found wsX5_kept := goodIn_r _ [73, 1, 74, 75, 76, 6, 77, 9, 78, 79, 66, 67, 68, 80, 81, 82, 83, 84, 85] (by decide +kernel) (by decide +kernel)
set_option maxRecDepth 20000 in
theorem gX5_found_X5_kept : GoodIn wsX5_found (wsV RX5 38 RX5 yX5_kept wsX5_kept) := goodIn_app (goodIn_of _ (by decide +kernel)) ggX5_found_X5_kept
theorem dX5_found_0 : decode cX5_found 0 = .ok (.aload_n 0, 1) := by decide +kernel
theorem dX5_found_1 : decode cX5_found 1 = .ok (.getfield 19, 3) := by decide +kernel
theorem dX5_found_4 : decode cX5_found 4 = .ok (.aload_n 0, 1) := by decide +kernel
theorem dX5_found_5 : decode cX5_found 5 = .ok (.getfield 10, 3) := by decide +kernel
theorem dX5_found_8 : decode cX5_found 8 = .ok (.invokevirtual 30, 3) := by decide +kernel
theorem dX5_found_11 : decode cX5_found 11 = .ok (.aload_n 0, 1) := by decide +kernel
theorem dX5_found_12 : decode cX5_found 12 = .ok (.aload_n 0, 1) := by decide +kernel
theorem dX5_found_13 : decode cX5_found 13 = .ok (.getfield 10, 3) := by decide +kernel
theorem dX5_found_16 : decode cX5_found 16 = .ok (.iload_n 1, 1) := by decide +kernel
theorem dX5_found_17 : decode cX5_found 17 = .ok (.invokevirtual 46, 3) := by decide +kernel
theorem dX5_found_20 : decode cX5_found 20 = .ok (.invokevirtual 38, 3) := by decide +kernel
theorem dX5_found_23 : decode cX5_found 23 = .ok (.ireturn, 1) := by decide +kernel
set_option maxRecDepth 20000 in
theorem ggX5_setLot_X1_note : GoodIn wsX5_setLot wsX1_note := goodIn_r _ [7, 8, 9, 10, 11, 12, 13, 14, 15, 16, 17, 18, 19, 20, 21, 22, 23, 24, 25, 26, 27, 28, 29, 30, 31, 32, 33, 34, 35, 36, 37, 38, 39, 40, 41, 42, 43, 44, 45, 46, 47, 48, 49, 50, 51, 52, 79, 80, 81, 82, 83, 84, 85, 86, 87, 88, 89, 90, 91, 92, 93, 94, 95, 96, 97, 98, 99, 100, 101, 102, 103] (by decide +kernel) (by decide +kernel)
set_option maxRecDepth 20000 in
theorem gX5_setLot_X1_note : GoodIn wsX5_setLot (wsV RX5 30 RX1 yX1_note wsX1_note) := goodIn_app (goodIn_of _ (by decide +kernel)) ggX5_setLot_X1_note
set_option maxRecDepth 20000 in
theorem ggX5_setLot_X4_setLotState : GoodIn wsX5_setLot wsX4_setLotState := goodIn_r _ [56, 57, 26, 58, 59, 60, 43, 61, 45, 82, 83, 84, 85, 86, 87, 88, 89, 90, 91, 92, 93, 94, 97, 98, 99, 100, 101, 102, 103] (by decide +kernel) (by decide +kernel)
set_option maxRecDepth 20000 in
theorem gX5_setLot_X4_setLotState : GoodIn wsX5_setLot (wsV RX5 49 RX4 yX4_setLotState wsX4_setLotState) := goodIn_app (goodIn_of _ (by decide +kernel)) ggX5_setLot_X4_setLotState
set_option maxRecDepth 20000 in
theorem ggX5_setLot_X5_kept : GoodIn wsX5_setLot wsX5_kept := goodIn_r _ [66, 1, 67, 68, 69, 6, 70, 9, 71, 72, 73, 74, 75, 76, 77, 78, 79, 80, 81] (by decide +kernel) (by decide +kernel)
set_option maxRecDepth 20000 in
theorem gX5_setLot_X5_kept : GoodIn wsX5_setLot (wsV RX5 38 RX5 yX5_kept wsX5_kept) := goodIn_app (goodIn_of _ (by decide +kernel)) ggX5_setLot_X5_kept
theorem dX5_setLot_0 : decode cX5_setLot 0 = .ok (.aload_n 0, 1) := by decide +kernel
theorem dX5_setLot_1 : decode cX5_setLot 1 = .ok (.getfield 19, 3) := by decide +kernel
theorem dX5_setLot_4 : decode cX5_setLot 4 = .ok (.aload_n 0, 1) := by decide +kernel
theorem dX5_setLot_5 : decode cX5_setLot 5 = .ok (.getfield 10, 3) := by decide +kernel
theorem dX5_setLot_8 : decode cX5_setLot 8 = .ok (.invokevirtual 30, 3) := by decide +kernel
theorem dX5_setLot_11 : decode cX5_setLot 11 = .ok (.aload_n 0, 1) := by decide +kernel
theorem dX5_setLot_12 : decode cX5_setLot 12 = .ok (.aload_n 0, 1) := by decide +kernel
theorem dX5_setLot_13 : decode cX5_setLot 13 = .ok (.getfield 10, 3) := by decide +kernel
theorem dX5_setLot_16 : decode cX5_setLot 16 = .ok (.iload_n 1, 1) := by decide +kernel
theorem dX5_setLot_17 : decode cX5_setLot 17 = .ok (.invokevirtual 49, 3) := by decide +kernel
theorem dX5_setLot_20 : decode cX5_setLot 20 = .ok (.invokevirtual 38, 3) := by decide +kernel
theorem dX5_setLot_23 : decode cX5_setLot 23 = .ok (.ireturn, 1) := by decide +kernel
set_option maxRecDepth 20000 in
theorem ggX5_change_X1_note : GoodIn wsX5_change wsX1_note := goodIn_r _ [7, 8, 9, 10, 11, 12, 13, 14, 15, 16, 17, 18, 19, 20, 21, 22, 23, 24, 25, 26, 27, 28, 29, 30, 31, 32, 33, 34, 35, 36, 37, 38, 39, 40, 41, 42, 43, 44, 45, 46, 47, 48, 49, 50, 51, 52, 176, 177, 178, 179, 180, 181, 182, 183, 184, 185, 186, 187, 188, 189, 190, 191, 192, 193, 194, 195, 196, 197, 198, 199, 200] (by decide +kernel) (by decide +kernel)
set_option maxRecDepth 20000 in
theorem gX5_change_X1_note : GoodIn wsX5_change (wsV RX5 30 RX1 yX1_note wsX1_note) := goodIn_app (goodIn_of _ (by decide +kernel)) ggX5_change_X1_note
set_option maxRecDepth 20000 in
theorem ggX5_change_X4_beginChange : GoodIn wsX5_change wsX4_beginChange := goodIn_r _ [56, 22, 26, 21, 27, 23, 25, 57, 58, 59, 13, 60, 15, 61, 62, 63, 35, 64, 37, 65, 66, 67, 43, 68, 45, 69, 70, 71, 72, 73, 74, 75, 76, 77, 78, 79, 80, 81, 82, 83, 84, 85, 86, 87, 88, 38, 89, 90, 91, 92, 93, 94, 95, 96, 97, 98, 99, 100, 101, 102, 103, 104, 105, 106, 107, 108, 16, 109, 110, 111, 112, 46, 47, 49, 50, 51, 52, 113, 114, 115, 116, 117, 118, 119, 120, 121, 122, 29, 30, 24, 31, 123, 124, 125, 126, 28, 127, 128, 129, 130, 131, 132, 133, 134, 135, 136, 137, 138, 139, 140, 141, 142, 143, 144, 145, 146, 147, 148, 149, 150, 151, 152, 153, 154, 155, 156, 157, 158, 32, 33, 34, 36, 39, 18, 19, 20, 179, 180, 181, 182, 183, 184, 185, 186, 187, 188, 189, 190, 191, 192, 193, 194, 195, 196, 197, 198, 199, 200] (by decide +kernel) (by decide +kernel)
set_option maxRecDepth 20000 in
theorem gX5_change_X4_beginChange : GoodIn wsX5_change (wsV RX5 52 RX4 yX4_beginChange wsX4_beginChange) := goodIn_app (goodIn_of _ (by decide +kernel)) ggX5_change_X4_beginChange
set_option maxRecDepth 20000 in
theorem ggX5_change_X5_kept : GoodIn wsX5_change wsX5_kept := goodIn_r _ [163, 1, 164, 165, 166, 6, 167, 9, 168, 169, 170, 171, 172, 173, 174, 175, 176, 177, 178] (by decide +kernel) (by decide +kernel)
set_option maxRecDepth 20000 in
theorem gX5_change_X5_kept : GoodIn wsX5_change (wsV RX5 38 RX5 yX5_kept wsX5_kept) := goodIn_app (goodIn_of _ (by decide +kernel)) ggX5_change_X5_kept
theorem dX5_change_0 : decode cX5_change 0 = .ok (.aload_n 0, 1) := by decide +kernel
theorem dX5_change_1 : decode cX5_change 1 = .ok (.getfield 19, 3) := by decide +kernel
theorem dX5_change_4 : decode cX5_change 4 = .ok (.aload_n 0, 1) := by decide +kernel
theorem dX5_change_5 : decode cX5_change 5 = .ok (.getfield 10, 3) := by decide +kernel
theorem dX5_change_8 : decode cX5_change 8 = .ok (.invokevirtual 30, 3) := by decide +kernel
theorem dX5_change_11 : decode cX5_change 11 = .ok (.aload_n 0, 1) := by decide +kernel
theorem dX5_change_12 : decode cX5_change 12 = .ok (.aload_n 0, 1) := by decide +kernel
theorem dX5_change_13 : decode cX5_change 13 = .ok (.getfield 10, 3) := by decide +kernel
theorem dX5_change_16 : decode cX5_change 16 = .ok (.iload_n 1, 1) := by decide +kernel
theorem dX5_change_17 : decode cX5_change 17 = .ok (.iload_n 2, 1) := by decide +kernel
theorem dX5_change_18 : decode cX5_change 18 = .ok (.invokevirtual 52, 3) := by decide +kernel
theorem dX5_change_21 : decode cX5_change 21 = .ok (.invokevirtual 38, 3) := by decide +kernel
theorem dX5_change_24 : decode cX5_change 24 = .ok (.ireturn, 1) := by decide +kernel
set_option maxRecDepth 20000 in
theorem ggX5_forge_X1_note : GoodIn wsX5_forge wsX1_note := goodIn_r _ [7, 8, 9, 10, 11, 12, 13, 14, 15, 16, 17, 18, 19, 20, 21, 22, 23, 24, 25, 26, 27, 28, 29, 30, 31, 32, 33, 34, 35, 36, 37, 38, 39, 40, 41, 42, 43, 44, 45, 46, 47, 48, 49, 50, 51, 52, 150, 151, 152, 153, 154, 155, 156, 157, 158, 159, 160, 161, 162, 163, 164, 165, 166, 167, 168, 169, 170, 171, 172, 173, 174] (by decide +kernel) (by decide +kernel)
set_option maxRecDepth 20000 in
theorem gX5_forge_X1_note : GoodIn wsX5_forge (wsV RX5 30 RX1 yX1_note wsX1_note) := goodIn_app (goodIn_of _ (by decide +kernel)) ggX5_forge_X1_note
set_option maxRecDepth 20000 in
theorem ggX5_forge_X4_forgeLot : GoodIn wsX5_forge wsX4_forgeLot := goodIn_r _ [56, 26, 23, 57, 58, 59, 13, 60, 15, 61, 62, 63, 64, 25, 65, 66, 67, 68, 22, 69, 70, 71, 35, 72, 73, 74, 75, 76, 37, 38, 77, 78, 79, 43, 80, 46, 52, 81, 82, 83, 84, 85, 86, 87, 88, 89, 90, 91, 92, 93, 94, 95, 96, 51, 97, 98, 99, 100, 28, 27, 101, 102, 103, 104, 105, 106, 107, 108, 109, 110, 111, 112, 113, 114, 115, 116, 21, 117, 118, 119, 120, 16, 121, 122, 123, 124, 125, 126, 127, 128, 129, 130, 131, 132, 24, 32, 33, 34, 36, 39, 18, 19, 20, 153, 154, 155, 156, 157, 158, 159, 160, 161, 162, 163, 164, 165, 166, 167, 168, 169, 170, 171, 172, 173, 174] (by decide +kernel) (by decide +kernel)
set_option maxRecDepth 20000 in
theorem gX5_forge_X4_forgeLot : GoodIn wsX5_forge (wsV RX5 55 RX4 yX4_forgeLot wsX4_forgeLot) := goodIn_app (goodIn_of _ (by decide +kernel)) ggX5_forge_X4_forgeLot
set_option maxRecDepth 20000 in
theorem ggX5_forge_X5_kept : GoodIn wsX5_forge wsX5_kept := goodIn_r _ [137, 1, 138, 139, 140, 6, 141, 9, 142, 143, 144, 145, 146, 147, 148, 149, 150, 151, 152] (by decide +kernel) (by decide +kernel)
set_option maxRecDepth 20000 in
theorem gX5_forge_X5_kept : GoodIn wsX5_forge (wsV RX5 38 RX5 yX5_kept wsX5_kept) := goodIn_app (goodIn_of _ (by decide +kernel)) ggX5_forge_X5_kept
theorem dX5_forge_0 : decode cX5_forge 0 = .ok (.aload_n 0, 1) := by decide +kernel
theorem dX5_forge_1 : decode cX5_forge 1 = .ok (.getfield 19, 3) := by decide +kernel
theorem dX5_forge_4 : decode cX5_forge 4 = .ok (.aload_n 0, 1) := by decide +kernel
theorem dX5_forge_5 : decode cX5_forge 5 = .ok (.getfield 10, 3) := by decide +kernel
theorem dX5_forge_8 : decode cX5_forge 8 = .ok (.invokevirtual 30, 3) := by decide +kernel
theorem dX5_forge_11 : decode cX5_forge 11 = .ok (.aload_n 0, 1) := by decide +kernel
theorem dX5_forge_12 : decode cX5_forge 12 = .ok (.aload_n 0, 1) := by decide +kernel
theorem dX5_forge_13 : decode cX5_forge 13 = .ok (.getfield 10, 3) := by decide +kernel
theorem dX5_forge_16 : decode cX5_forge 16 = .ok (.iload_n 1, 1) := by decide +kernel
theorem dX5_forge_17 : decode cX5_forge 17 = .ok (.invokevirtual 55, 3) := by decide +kernel
theorem dX5_forge_20 : decode cX5_forge 20 = .ok (.invokevirtual 38, 3) := by decide +kernel
theorem dX5_forge_23 : decode cX5_forge 23 = .ok (.ireturn, 1) := by decide +kernel
set_option maxRecDepth 20000 in
theorem ggX5_propose_X1_note : GoodIn wsX5_propose wsX1_note := goodIn_r _ [7, 8, 9, 10, 11, 12, 13, 14, 15, 16, 17, 18, 19, 20, 21, 22, 23, 24, 25, 26, 27, 28, 29, 30, 31, 32, 33, 34, 35, 36, 37, 38, 39, 40, 41, 42, 43, 44, 45, 46, 47, 48, 49, 50, 51, 52, 146, 147, 148, 149, 150, 151, 152, 153, 154, 155, 156, 157, 158, 159, 160, 161, 162, 163, 164, 165, 166, 167, 168, 169, 170] (by decide +kernel) (by decide +kernel)
set_option maxRecDepth 20000 in
theorem gX5_propose_X1_note : GoodIn wsX5_propose (wsV RX5 30 RX1 yX1_note wsX1_note) := goodIn_app (goodIn_of _ (by decide +kernel)) ggX5_propose_X1_note
set_option maxRecDepth 20000 in
theorem ggX5_propose_X4_proposeEntry : GoodIn wsX5_propose wsX4_proposeEntry := goodIn_r _ [56, 21, 27, 57, 58, 59, 13, 60, 15, 61, 62, 63, 64, 65, 66, 67, 68, 22, 23, 69, 70, 71, 35, 72, 73, 74, 75, 76, 37, 38, 77, 78, 79, 80, 16, 81, 82, 83, 84, 29, 30, 24, 31, 85, 86, 87, 88, 28, 25, 89, 90, 91, 92, 93, 94, 95, 96, 97, 98, 99, 100, 101, 102, 103, 104, 105, 106, 107, 108, 109, 110, 111, 112, 113, 114, 115, 116, 117, 118, 119, 120, 121, 122, 123, 124, 125, 126, 127, 128, 32, 33, 34, 36, 39, 18, 19, 20, 149, 150, 151, 152, 153, 154, 155, 156, 157, 158, 159, 160, 161, 162, 163] (by decide +kernel) (by decide +kernel)
set_option maxRecDepth 20000 in
theorem gX5_propose_X4_proposeEntry : GoodIn wsX5_propose (wsV RX5 58 RX4 yX4_proposeEntry wsX4_proposeEntry) := goodIn_app (goodIn_of _ (by decide +kernel)) ggX5_propose_X4_proposeEntry
set_option maxRecDepth 20000 in
theorem ggX5_propose_X5_kept : GoodIn wsX5_propose wsX5_kept := goodIn_r _ [133, 1, 134, 135, 136, 6, 137, 9, 138, 139, 140, 141, 142, 143, 144, 145, 146, 147, 148] (by decide +kernel) (by decide +kernel)
set_option maxRecDepth 20000 in
theorem gX5_propose_X5_kept : GoodIn wsX5_propose (wsV RX5 38 RX5 yX5_kept wsX5_kept) := goodIn_app (goodIn_of _ (by decide +kernel)) ggX5_propose_X5_kept
theorem dX5_propose_0 : decode cX5_propose 0 = .ok (.aload_n 0, 1) := by decide +kernel
theorem dX5_propose_1 : decode cX5_propose 1 = .ok (.getfield 19, 3) := by decide +kernel
theorem dX5_propose_4 : decode cX5_propose 4 = .ok (.aload_n 0, 1) := by decide +kernel
theorem dX5_propose_5 : decode cX5_propose 5 = .ok (.getfield 10, 3) := by decide +kernel
theorem dX5_propose_8 : decode cX5_propose 8 = .ok (.invokevirtual 30, 3) := by decide +kernel
theorem dX5_propose_11 : decode cX5_propose 11 = .ok (.aload_n 0, 1) := by decide +kernel
theorem dX5_propose_12 : decode cX5_propose 12 = .ok (.aload_n 0, 1) := by decide +kernel
theorem dX5_propose_13 : decode cX5_propose 13 = .ok (.getfield 10, 3) := by decide +kernel
theorem dX5_propose_16 : decode cX5_propose 16 = .ok (.iload_n 1, 1) := by decide +kernel
theorem dX5_propose_17 : decode cX5_propose 17 = .ok (.iload_n 2, 1) := by decide +kernel
theorem dX5_propose_18 : decode cX5_propose 18 = .ok (.invokevirtual 58, 3) := by decide +kernel
theorem dX5_propose_21 : decode cX5_propose 21 = .ok (.invokevirtual 38, 3) := by decide +kernel
theorem dX5_propose_24 : decode cX5_propose 24 = .ok (.ireturn, 1) := by decide +kernel
set_option maxRecDepth 20000 in
theorem ggX5_second_X1_note : GoodIn wsX5_second wsX1_note := goodIn_r _ [7, 8, 9, 10, 11, 12, 13, 14, 15, 16, 17, 18, 19, 20, 21, 22, 23, 24, 25, 26, 27, 28, 29, 30, 31, 32, 33, 34, 35, 36, 37, 38, 39, 40, 41, 42, 43, 44, 45, 46, 47, 48, 49, 50, 51, 52, 146, 147, 148, 149, 150, 151, 152, 153, 154, 155, 156, 157, 158, 159, 160, 161, 162, 163, 164, 165, 166, 167, 168, 169, 170] (by decide +kernel) (by decide +kernel)
set_option maxRecDepth 20000 in
theorem gX5_second_X1_note : GoodIn wsX5_second (wsV RX5 30 RX1 yX1_note wsX1_note) := goodIn_app (goodIn_of _ (by decide +kernel)) ggX5_second_X1_note
set_option maxRecDepth 20000 in
theorem ggX5_second_X4_secondEntry : GoodIn wsX5_second wsX4_secondEntry := goodIn_r _ [56, 21, 57, 58, 59, 13, 60, 15, 61, 62, 63, 64, 27, 65, 66, 67, 68, 69, 70, 71, 72, 22, 23, 73, 74, 75, 35, 76, 77, 78, 79, 80, 37, 38, 81, 82, 83, 84, 16, 85, 86, 87, 88, 28, 25, 89, 90, 91, 92, 93, 94, 95, 96, 97, 98, 99, 100, 101, 102, 103, 104, 105, 106, 107, 108, 109, 110, 111, 112, 113, 114, 115, 116, 117, 118, 119, 120, 121, 122, 123, 124, 125, 126, 127, 128, 24, 32, 33, 34, 36, 39, 18, 19, 20, 149, 150, 151, 152, 153, 154, 155, 156, 157, 158, 159, 160, 161, 162, 163] (by decide +kernel) (by decide +kernel)
set_option maxRecDepth 20000 in
theorem gX5_second_X4_secondEntry : GoodIn wsX5_second (wsV RX5 61 RX4 yX4_secondEntry wsX4_secondEntry) := goodIn_app (goodIn_of _ (by decide +kernel)) ggX5_second_X4_secondEntry
set_option maxRecDepth 20000 in
theorem ggX5_second_X5_kept : GoodIn wsX5_second wsX5_kept := goodIn_r _ [133, 1, 134, 135, 136, 6, 137, 9, 138, 139, 140, 141, 142, 143, 144, 145, 146, 147, 148] (by decide +kernel) (by decide +kernel)
set_option maxRecDepth 20000 in
theorem gX5_second_X5_kept : GoodIn wsX5_second (wsV RX5 38 RX5 yX5_kept wsX5_kept) := goodIn_app (goodIn_of _ (by decide +kernel)) ggX5_second_X5_kept
theorem dX5_second_0 : decode cX5_second 0 = .ok (.aload_n 0, 1) := by decide +kernel
theorem dX5_second_1 : decode cX5_second 1 = .ok (.getfield 19, 3) := by decide +kernel
theorem dX5_second_4 : decode cX5_second 4 = .ok (.aload_n 0, 1) := by decide +kernel
theorem dX5_second_5 : decode cX5_second 5 = .ok (.getfield 10, 3) := by decide +kernel
theorem dX5_second_8 : decode cX5_second 8 = .ok (.invokevirtual 30, 3) := by decide +kernel
theorem dX5_second_11 : decode cX5_second 11 = .ok (.aload_n 0, 1) := by decide +kernel
theorem dX5_second_12 : decode cX5_second 12 = .ok (.aload_n 0, 1) := by decide +kernel
theorem dX5_second_13 : decode cX5_second 13 = .ok (.getfield 10, 3) := by decide +kernel
theorem dX5_second_16 : decode cX5_second 16 = .ok (.iload_n 1, 1) := by decide +kernel
theorem dX5_second_17 : decode cX5_second 17 = .ok (.iload_n 2, 1) := by decide +kernel
theorem dX5_second_18 : decode cX5_second 18 = .ok (.invokevirtual 61, 3) := by decide +kernel
theorem dX5_second_21 : decode cX5_second 21 = .ok (.invokevirtual 38, 3) := by decide +kernel
theorem dX5_second_24 : decode cX5_second 24 = .ok (.ireturn, 1) := by decide +kernel
set_option maxRecDepth 20000 in
theorem ggX5_learn_X1_note : GoodIn wsX5_learn wsX1_note := goodIn_r _ [7, 8, 9, 10, 11, 12, 13, 14, 15, 16, 17, 18, 19, 20, 21, 22, 23, 24, 25, 26, 27, 28, 29, 30, 31, 32, 33, 34, 35, 36, 37, 38, 39, 40, 41, 42, 43, 44, 45, 46, 47, 48, 49, 50, 51, 52, 81, 82, 83, 84, 85, 86, 87, 88, 89, 90, 91, 92, 93, 94, 95, 96, 97, 98, 99, 100, 101, 102, 103, 104, 105] (by decide +kernel) (by decide +kernel)
set_option maxRecDepth 20000 in
theorem gX5_learn_X1_note : GoodIn wsX5_learn (wsV RX5 30 RX1 yX1_note wsX1_note) := goodIn_app (goodIn_of _ (by decide +kernel)) ggX5_learn_X1_note
set_option maxRecDepth 20000 in
theorem ggX5_learn_X4_learnEntries : GoodIn wsX5_learn wsX4_learnEntries := goodIn_r _ [56, 16, 28, 21, 57, 58, 59, 60, 61, 62, 63, 13, 64, 15, 84, 85, 86, 87, 88, 89, 90, 91, 92, 93, 94, 95, 96] (by decide +kernel) (by decide +kernel)
set_option maxRecDepth 20000 in
theorem gX5_learn_X4_learnEntries : GoodIn wsX5_learn (wsV RX5 64 RX4 yX4_learnEntries wsX4_learnEntries) := goodIn_app (goodIn_of _ (by decide +kernel)) ggX5_learn_X4_learnEntries
set_option maxRecDepth 20000 in
theorem ggX5_learn_X5_kept : GoodIn wsX5_learn wsX5_kept := goodIn_r _ [69, 1, 70, 71, 72, 6, 73, 9, 74, 75, 76, 59, 77, 78, 79, 80, 81, 82, 83] (by decide +kernel) (by decide +kernel)
set_option maxRecDepth 20000 in
theorem gX5_learn_X5_kept : GoodIn wsX5_learn (wsV RX5 38 RX5 yX5_kept wsX5_kept) := goodIn_app (goodIn_of _ (by decide +kernel)) ggX5_learn_X5_kept
theorem dX5_learn_0 : decode cX5_learn 0 = .ok (.aload_n 0, 1) := by decide +kernel
theorem dX5_learn_1 : decode cX5_learn 1 = .ok (.getfield 19, 3) := by decide +kernel
theorem dX5_learn_4 : decode cX5_learn 4 = .ok (.aload_n 0, 1) := by decide +kernel
theorem dX5_learn_5 : decode cX5_learn 5 = .ok (.getfield 10, 3) := by decide +kernel
theorem dX5_learn_8 : decode cX5_learn 8 = .ok (.invokevirtual 30, 3) := by decide +kernel
theorem dX5_learn_11 : decode cX5_learn 11 = .ok (.aload_n 0, 1) := by decide +kernel
theorem dX5_learn_12 : decode cX5_learn 12 = .ok (.aload_n 0, 1) := by decide +kernel
theorem dX5_learn_13 : decode cX5_learn 13 = .ok (.getfield 10, 3) := by decide +kernel
theorem dX5_learn_16 : decode cX5_learn 16 = .ok (.iload_n 1, 1) := by decide +kernel
theorem dX5_learn_17 : decode cX5_learn 17 = .ok (.invokevirtual 64, 3) := by decide +kernel
theorem dX5_learn_20 : decode cX5_learn 20 = .ok (.invokevirtual 38, 3) := by decide +kernel
theorem dX5_learn_23 : decode cX5_learn 23 = .ok (.ireturn, 1) := by decide +kernel
set_option maxRecDepth 20000 in
theorem ggX5_count_X1_length : GoodIn wsX5_count wsX1_length := goodIn_r _ [8, 9, 67, 68, 69] (by decide +kernel) (by decide +kernel)
set_option maxRecDepth 20000 in
theorem gX5_count_X1_length : GoodIn wsX5_count (wsV RX5 106 RX1 yX1_length wsX1_length) := goodIn_app (goodIn_of _ (by decide +kernel)) ggX5_count_X1_length
set_option maxRecDepth 20000 in
theorem ggX5_count_X3_length : GoodIn wsX5_count wsX3_length := goodIn_r _ [14, 15, 70, 71, 72, 73, 74, 75] (by decide +kernel) (by decide +kernel)
set_option maxRecDepth 20000 in
theorem gX5_count_X3_length : GoodIn wsX5_count (wsV RX5 109 RX3 yX3_length wsX3_length) := goodIn_app (goodIn_of _ (by decide +kernel)) ggX5_count_X3_length
set_option maxRecDepth 20000 in
theorem ggX5_count_X4_tally : GoodIn wsX5_count wsX4_tally := goodIn_r _ [20, 21, 22, 23, 24, 25, 26, 27, 28, 29, 19, 30, 31, 32, 33, 34, 35, 36, 37, 38, 39, 40, 41, 42, 43, 44, 45, 46, 47, 48, 49, 50, 51, 52, 53, 54, 55, 56, 57, 58, 59, 60, 61, 62, 63, 76, 77, 78, 79, 80, 81, 82, 83, 84, 85, 86, 87, 88, 89, 90, 91, 92, 93, 94, 95, 96, 97] (by decide +kernel) (by decide +kernel)
set_option maxRecDepth 20000 in
theorem gX5_count_X4_tally : GoodIn wsX5_count (wsV RX5 110 RX4 yX4_tally wsX4_tally) := goodIn_app (goodIn_of _ (by decide +kernel)) ggX5_count_X4_tally
theorem dX5_count_0 : decode cX5_count 0 = .ok (.iload_n 1, 1) := by decide +kernel
theorem dX5_count_1 : decode cX5_count 1 = .ok (.lookupswitch 43 #[(10, 27), (11, 35)], 27) := by decide +kernel
theorem dX5_count_28 : decode cX5_count 28 = .ok (.aload_n 0, 1) := by decide +kernel
theorem dX5_count_29 : decode cX5_count 29 = .ok (.getfield 19, 3) := by decide +kernel
theorem dX5_count_32 : decode cX5_count 32 = .ok (.invokevirtual 106, 3) := by decide +kernel
theorem dX5_count_35 : decode cX5_count 35 = .ok (.ireturn, 1) := by decide +kernel
theorem dX5_count_36 : decode cX5_count 36 = .ok (.aload_n 0, 1) := by decide +kernel
theorem dX5_count_37 : decode cX5_count 37 = .ok (.getfield 26, 3) := by decide +kernel
theorem dX5_count_40 : decode cX5_count 40 = .ok (.invokevirtual 109, 3) := by decide +kernel
theorem dX5_count_43 : decode cX5_count 43 = .ok (.ireturn, 1) := by decide +kernel
theorem dX5_count_44 : decode cX5_count 44 = .ok (.aload_n 0, 1) := by decide +kernel
theorem dX5_count_45 : decode cX5_count 45 = .ok (.getfield 10, 3) := by decide +kernel
theorem dX5_count_48 : decode cX5_count 48 = .ok (.iload_n 1, 1) := by decide +kernel
theorem dX5_count_49 : decode cX5_count 49 = .ok (.invokevirtual 110, 3) := by decide +kernel
theorem dX5_count_52 : decode cX5_count 52 = .ok (.ireturn, 1) := by decide +kernel
set_option maxRecDepth 20000 in
theorem ggX5_elder_X4_elderOf : GoodIn wsX5_elder wsX4_elderOf := goodIn_r _ [6, 7, 8, 9, 10, 11, 12, 13, 14, 15, 16, 17, 18, 19, 20, 21, 22, 23, 5, 24, 25, 29, 30, 31, 32, 33, 34, 35, 36, 37, 38, 39, 40, 41, 42, 43] (by decide +kernel) (by decide +kernel)
set_option maxRecDepth 20000 in
theorem gX5_elder_X4_elderOf : GoodIn wsX5_elder (wsV RX5 113 RX4 yX4_elderOf wsX4_elderOf) := goodIn_app (goodIn_of _ (by decide +kernel)) ggX5_elder_X4_elderOf
theorem dX5_elder_0 : decode cX5_elder 0 = .ok (.aload_n 0, 1) := by decide +kernel
theorem dX5_elder_1 : decode cX5_elder 1 = .ok (.getfield 10, 3) := by decide +kernel
theorem dX5_elder_4 : decode cX5_elder 4 = .ok (.iload_n 1, 1) := by decide +kernel
theorem dX5_elder_5 : decode cX5_elder 5 = .ok (.iload_n 2, 1) := by decide +kernel
theorem dX5_elder_6 : decode cX5_elder 6 = .ok (.invokevirtual 113, 3) := by decide +kernel
theorem dX5_elder_9 : decode cX5_elder 9 = .ok (.ireturn, 1) := by decide +kernel
set_option maxRecDepth 20000 in
theorem ggX5_villager_X4_aboutVillager : GoodIn wsX5_villager wsX4_aboutVillager := goodIn_r _ [6, 7, 8, 9, 10, 11, 12, 13, 14, 5, 15, 16, 17, 18, 19, 20, 21, 22, 23, 24, 25, 26, 27, 28, 29, 30, 34, 35, 36, 37, 38, 39, 40, 41, 42, 43, 44, 45, 46, 47, 48, 49, 50, 51, 52, 53, 54, 55] (by decide +kernel) (by decide +kernel)
set_option maxRecDepth 20000 in
theorem gX5_villager_X4_aboutVillager : GoodIn wsX5_villager (wsV RX5 116 RX4 yX4_aboutVillager wsX4_aboutVillager) := goodIn_app (goodIn_of _ (by decide +kernel)) ggX5_villager_X4_aboutVillager
theorem dX5_villager_0 : decode cX5_villager 0 = .ok (.aload_n 0, 1) := by decide +kernel
theorem dX5_villager_1 : decode cX5_villager 1 = .ok (.getfield 10, 3) := by decide +kernel
theorem dX5_villager_4 : decode cX5_villager 4 = .ok (.iload_n 1, 1) := by decide +kernel
theorem dX5_villager_5 : decode cX5_villager 5 = .ok (.iload_n 2, 1) := by decide +kernel
theorem dX5_villager_6 : decode cX5_villager 6 = .ok (.invokevirtual 116, 3) := by decide +kernel
theorem dX5_villager_9 : decode cX5_villager 9 = .ok (.ireturn, 1) := by decide +kernel
set_option maxRecDepth 20000 in
theorem ggX5_entry_X4_aboutEntry : GoodIn wsX5_entry wsX4_aboutEntry := goodIn_r _ [6, 7, 8, 9, 10, 11, 12, 13, 14, 15, 5, 16, 17, 18, 19, 20, 21, 22, 23, 24, 25, 26, 27, 28, 29, 30, 31, 32, 33, 34, 35, 36, 37, 38, 39, 40, 41, 42, 43, 44, 45, 46, 47, 48, 49, 50, 51, 52, 53, 54, 55, 59, 60, 61, 62, 63, 64, 65, 66, 67, 68, 69, 70, 71, 72, 73] (by decide +kernel) (by decide +kernel)
set_option maxRecDepth 20000 in
theorem gX5_entry_X4_aboutEntry : GoodIn wsX5_entry (wsV RX5 119 RX4 yX4_aboutEntry wsX4_aboutEntry) := goodIn_app (goodIn_of _ (by decide +kernel)) ggX5_entry_X4_aboutEntry
theorem dX5_entry_0 : decode cX5_entry 0 = .ok (.aload_n 0, 1) := by decide +kernel
theorem dX5_entry_1 : decode cX5_entry 1 = .ok (.getfield 10, 3) := by decide +kernel
theorem dX5_entry_4 : decode cX5_entry 4 = .ok (.iload_n 1, 1) := by decide +kernel
theorem dX5_entry_5 : decode cX5_entry 5 = .ok (.iload_n 2, 1) := by decide +kernel
theorem dX5_entry_6 : decode cX5_entry 6 = .ok (.invokevirtual 119, 3) := by decide +kernel
theorem dX5_entry_9 : decode cX5_entry 9 = .ok (.ireturn, 1) := by decide +kernel
set_option maxRecDepth 20000 in
theorem ggX5_draw_X4_aboutDraw : GoodIn wsX5_draw wsX4_aboutDraw := goodIn_r _ [6, 7, 8, 9, 10, 11, 12, 13, 14, 15, 16, 17, 18, 19, 20, 21, 22, 26, 27, 28, 29, 30, 31, 32, 33, 34, 35, 36, 37, 38, 39, 40, 41, 42, 43, 44, 45] (by decide +kernel) (by decide +kernel)
set_option maxRecDepth 20000 in
theorem gX5_draw_X4_aboutDraw : GoodIn wsX5_draw (wsV RX5 122 RX4 yX4_aboutDraw wsX4_aboutDraw) := goodIn_app (goodIn_of _ (by decide +kernel)) ggX5_draw_X4_aboutDraw
theorem dX5_draw_0 : decode cX5_draw 0 = .ok (.aload_n 0, 1) := by decide +kernel
theorem dX5_draw_1 : decode cX5_draw 1 = .ok (.getfield 10, 3) := by decide +kernel
theorem dX5_draw_4 : decode cX5_draw 4 = .ok (.iload_n 1, 1) := by decide +kernel
theorem dX5_draw_5 : decode cX5_draw 5 = .ok (.iload_n 2, 1) := by decide +kernel
theorem dX5_draw_6 : decode cX5_draw 6 = .ok (.invokevirtual 122, 3) := by decide +kernel
theorem dX5_draw_9 : decode cX5_draw 9 = .ok (.ireturn, 1) := by decide +kernel
set_option maxRecDepth 20000 in
theorem ggX5_kept_X1_keep : GoodIn wsX5_kept wsX1_keep := goodIn_r _ [6, 7, 8, 9, 10, 11, 12, 16, 17, 18] (by decide +kernel) (by decide +kernel)
set_option maxRecDepth 20000 in
theorem gX5_kept_X1_keep : GoodIn wsX5_kept (wsV RX5 140 RX1 yX1_keep wsX1_keep) := goodIn_app (goodIn_of _ (by decide +kernel)) ggX5_kept_X1_keep
theorem dX5_kept_0 : decode cX5_kept 0 = .ok (.iload_n 1, 1) := by decide +kernel
theorem dX5_kept_1 : decode cX5_kept 1 = .ok (.ifCond .lt 10, 3) := by decide +kernel
theorem dX5_kept_4 : decode cX5_kept 4 = .ok (.aload_n 0, 1) := by decide +kernel
theorem dX5_kept_5 : decode cX5_kept 5 = .ok (.getfield 19, 3) := by decide +kernel
theorem dX5_kept_8 : decode cX5_kept 8 = .ok (.invokevirtual 140, 3) := by decide +kernel
theorem dX5_kept_11 : decode cX5_kept 11 = .ok (.iload_n 1, 1) := by decide +kernel
theorem dX5_kept_12 : decode cX5_kept 12 = .ok (.ireturn, 1) := by decide +kernel

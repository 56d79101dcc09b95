theorem dX5_init_0 : decode cX5_init 0 = .ok (.aload_n 0, 1) := by decide +kernel
theorem dX5_init_1 : decode cX5_init 1 = .ok (.invokespecial 1, 3) := by decide +kernel
theorem dX5_init_4 : decode cX5_init 4 = .ok (.aload_n 0, 1) := by decide +kernel
theorem dX5_init_5 : decode cX5_init 5 = .ok (.new 7, 3) := by decide +kernel
theorem dX5_init_8 : decode cX5_init 8 = .ok (.dup, 1) := by decide +kernel
theorem dX5_init_9 : decode cX5_init 9 = .ok (.invokespecial 9, 3) := by decide +kernel
theorem dX5_init_12 : decode cX5_init 12 = .ok (.putfield 10, 3) := by decide +kernel
theorem dX5_init_15 : decode cX5_init 15 = .ok (.aload_n 0, 1) := by decide +kernel
theorem dX5_init_16 : decode cX5_init 16 = .ok (.new 16, 3) := by decide +kernel
theorem dX5_init_19 : decode cX5_init 19 = .ok (.dup, 1) := by decide +kernel
theorem dX5_init_20 : decode cX5_init 20 = .ok (.invokespecial 18, 3) := by decide +kernel
theorem dX5_init_23 : decode cX5_init 23 = .ok (.putfield 19, 3) := by decide +kernel
theorem dX5_init_26 : decode cX5_init 26 = .ok (.aload_n 0, 1) := by decide +kernel
theorem dX5_init_27 : decode cX5_init 27 = .ok (.new 23, 3) := by decide +kernel
theorem dX5_init_30 : decode cX5_init 30 = .ok (.dup, 1) := by decide +kernel
theorem dX5_init_31 : decode cX5_init 31 = .ok (.invokespecial 25, 3) := by decide +kernel
theorem dX5_init_34 : decode cX5_init 34 = .ok (.putfield 26, 3) := by decide +kernel
theorem dX5_init_37 : decode cX5_init 37 = .ok (.return_, 1) := by decide +kernel
set_option maxRecDepth 20000 in
theorem ggX5_come_X1_note : GoodIn wsX5_come wsX1_note := goodIn_r _ [7, 8, 9, 10, 11, 12, 13, 14, 15, 16, 17, 18, 19, 20, 21, 22, 23, 24, 25, 26, 27, 28, 29, 30, 31, 32, 33, 34, 35, 36, 37, 38, 39, 40, 41, 42, 43, 44, 45, 46, 47, 48, 49, 50, 51, 52, 74, 75, 76, 77, 78, 79, 80, 81, 82, 83, 84, 85, 86, 87, 88, 89, 90, 91, 92, 93, 94, 95, 96, 97, 98] (by decide +kernel) (by decide +kernel)
set_option maxRecDepth 20000 in
theorem gX5_come_X1_note : GoodIn wsX5_come (wsV RX5 30 RX1 yX1_note wsX1_note) := goodIn_app (goodIn_of _ (by decide +kernel)) ggX5_come_X1_note
set_option maxRecDepth 20000 in
theorem ggX5_come_X4_letCome : GoodIn wsX5_come wsX4_letCome := goodIn_r _ [56, 15, 16, 21, 77, 78, 79, 80, 81, 82, 83, 84, 85, 86, 87, 88, 89] (by decide +kernel) (by decide +kernel)
set_option maxRecDepth 20000 in
theorem gX5_come_X4_letCome : GoodIn wsX5_come (wsV RX5 34 RX4 yX4_letCome wsX4_letCome) := goodIn_app (goodIn_of _ (by decide +kernel)) ggX5_come_X4_letCome
set_option maxRecDepth 20000 in
theorem ggX5_come_X5_kept : GoodIn wsX5_come wsX5_kept := goodIn_r _ [61, 1, 62, 63, 64, 6, 65, 9, 66, 67, 68, 69, 70, 71, 72, 73, 74, 75, 76] (by decide +kernel) (by decide +kernel)
set_option maxRecDepth 20000 in
theorem gX5_come_X5_kept : GoodIn wsX5_come (wsV RX5 38 RX5 yX5_kept wsX5_kept) := goodIn_app (goodIn_of _ (by decide +kernel)) ggX5_come_X5_kept
theorem dX5_come_0 : decode cX5_come 0 = .ok (.aload_n 0, 1) := by decide +kernel
theorem dX5_come_1 : decode cX5_come 1 = .ok (.getfield 19, 3) := by decide +kernel
theorem dX5_come_4 : decode cX5_come 4 = .ok (.aload_n 0, 1) := by decide +kernel
theorem dX5_come_5 : decode cX5_come 5 = .ok (.getfield 10, 3) := by decide +kernel
theorem dX5_come_8 : decode cX5_come 8 = .ok (.invokevirtual 30, 3) := by decide +kernel
theorem dX5_come_11 : decode cX5_come 11 = .ok (.aload_n 0, 1) := by decide +kernel
theorem dX5_come_12 : decode cX5_come 12 = .ok (.aload_n 0, 1) := by decide +kernel
theorem dX5_come_13 : decode cX5_come 13 = .ok (.getfield 10, 3) := by decide +kernel
theorem dX5_come_16 : decode cX5_come 16 = .ok (.invokevirtual 34, 3) := by decide +kernel
theorem dX5_come_19 : decode cX5_come 19 = .ok (.invokevirtual 38, 3) := by decide +kernel
theorem dX5_come_22 : decode cX5_come 22 = .ok (.ireturn, 1) := by decide +kernel
set_option maxRecDepth 20000 in
theorem ggX5_attend_X1_note : GoodIn wsX5_attend wsX1_note := goodIn_r _ [7, 8, 9, 10, 11, 12, 13, 14, 15, 16, 17, 18, 19, 20, 21, 22, 23, 24, 25, 26, 27, 28, 29, 30, 31, 32, 33, 34, 35, 36, 37, 38, 39, 40, 41, 42, 43, 44, 45, 46, 47, 48, 49, 50, 51, 52, 82, 83, 84, 85, 86, 87, 88, 89, 90, 91, 92, 93, 94, 95, 96, 97, 98, 99, 100, 101, 102, 103, 104, 105, 106] (by decide +kernel) (by decide +kernel)
set_option maxRecDepth 20000 in
theorem gX5_attend_X1_note : GoodIn wsX5_attend (wsV RX5 30 RX1 yX1_note wsX1_note) := goodIn_app (goodIn_of _ (by decide +kernel)) ggX5_attend_X1_note
set_option maxRecDepth 20000 in
theorem ggX5_attend_X4_letAttend : GoodIn wsX5_attend wsX4_letAttend := goodIn_r _ [56, 16, 57, 58, 59, 13, 60, 15, 61, 62, 63, 64, 85, 86, 87, 88, 89, 90, 91, 92, 93, 94, 95, 96, 97] (by decide +kernel) (by decide +kernel)
set_option maxRecDepth 20000 in
theorem gX5_attend_X4_letAttend : GoodIn wsX5_attend (wsV RX5 42 RX4 yX4_letAttend wsX4_letAttend) := goodIn_app (goodIn_of _ (by decide +kernel)) ggX5_attend_X4_letAttend
set_option maxRecDepth 20000 in
theorem ggX5_attend_X5_kept : GoodIn wsX5_attend wsX5_kept := goodIn_r _ [69, 1, 70, 71, 72, 6, 73, 9, 74, 75, 76, 77, 78, 79, 80, 81, 82, 83, 84] (by decide +kernel) (by decide +kernel)
set_option maxRecDepth 20000 in
theorem gX5_attend_X5_kept : GoodIn wsX5_attend (wsV RX5 38 RX5 yX5_kept wsX5_kept) := goodIn_app (goodIn_of _ (by decide +kernel)) ggX5_attend_X5_kept
theorem dX5_attend_0 : decode cX5_attend 0 = .ok (.aload_n 0, 1) := by decide +kernel
theorem dX5_attend_1 : decode cX5_attend 1 = .ok (.getfield 19, 3) := by decide +kernel
theorem dX5_attend_4 : decode cX5_attend 4 = .ok (.aload_n 0, 1) := by decide +kernel
theorem dX5_attend_5 : decode cX5_attend 5 = .ok (.getfield 10, 3) := by decide +kernel
theorem dX5_attend_8 : decode cX5_attend 8 = .ok (.invokevirtual 30, 3) := by decide +kernel
theorem dX5_attend_11 : decode cX5_attend 11 = .ok (.aload_n 0, 1) := by decide +kernel
theorem dX5_attend_12 : decode cX5_attend 12 = .ok (.aload_n 0, 1) := by decide +kernel
theorem dX5_attend_13 : decode cX5_attend 13 = .ok (.getfield 10, 3) := by decide +kernel
theorem dX5_attend_16 : decode cX5_attend 16 = .ok (.iload_n 1, 1) := by decide +kernel
theorem dX5_attend_17 : decode cX5_attend 17 = .ok (.iload_n 2, 1) := by decide +kernel
theorem dX5_attend_18 : decode cX5_attend 18 = .ok (.invokevirtual 42, 3) := by decide +kernel
theorem dX5_attend_21 : decode cX5_attend 21 = .ok (.invokevirtual 38, 3) := by decide +kernel
theorem dX5_attend_24 : decode cX5_attend 24 = .ok (.ireturn, 1) := by decide +kernel
set_option maxRecDepth 20000 in
theorem ggX5_found_X1_note : GoodIn wsX5_found wsX1_note := goodIn_r _ [7, 8, 9, 10, 11, 12, 13, 14, 15, 16, 17, 18, 19, 20, 21, 22, 23, 24, 25, 26, 27, 28, 29, 30, 31, 32, 33, 34, 35, 36, 37, 38, 39, 40, 41, 42, 43, 44, 45, 46, 47, 48, 49, 50, 51, 52, 83, 84, 85, 86, 87, 88, 89, 90, 91, 92, 93, 94, 95, 96, 97, 98, 99, 100, 101, 102, 103, 104, 105, 106, 107] (by decide +kernel) (by decide +kernel)
set_option maxRecDepth 20000 in
theorem gX5_found_X1_note : GoodIn wsX5_found (wsV RX5 30 RX1 yX1_note wsX1_note) := goodIn_app (goodIn_of _ (by decide +kernel)) ggX5_found_X1_note
set_option maxRecDepth 20000 in
theorem ggX5_found_X4_setFirstCouncil : GoodIn wsX5_found wsX4_setFirstCouncil := goodIn_r _ [56, 22, 15, 23, 57, 58, 59, 35, 60, 37, 61, 62, 63, 64, 65, 66, 67, 68, 38, 32, 33, 34, 36, 39, 18, 19, 20, 86, 87, 88, 89, 90, 91, 92, 93, 94, 95, 96, 97, 98, 99, 100] (by decide +kernel) (by decide +kernel)
set_option maxRecDepth 20000 in
theorem gX5_found_X4_setFirstCouncil : GoodIn wsX5_found (wsV RX5 46 RX4 yX4_setFirstCouncil wsX4_setFirstCouncil) := goodIn_app (goodIn_of _ (by decide +kernel)) ggX5_found_X4_setFirstCouncil
set_option maxRecDepth 20000 in
theorem ggX5_found_X5_kept : GoodIn wsX5_found wsX5_kept := goodIn_r _ [73, 1, 74, 75, 76, 6, 77, 9, 78, 79, 66, 67, 68, 80, 81, 82, 83, 84, 85] (by decide +kernel) (by decide +kernel)
set_option maxRecDepth 20000 in
theorem gX5_found_X5_kept : GoodIn wsX5_found (wsV RX5 38 RX5 yX5_kept wsX5_kept) := goodIn_app (goodIn_of _ (by decide +kernel)) ggX5_found_X5_kept
theorem dX5_found_0 : decode cX5_found 0 = .ok (.aload_n 0, 1) := by decide +kernel
theorem dX5_found_1 : decode cX5_found 1 = .ok (.getfield 19, 3) := by decide +kernel
theorem dX5_found_4 : decode cX5_found 4 = .ok (.aload_n 0, 1) := by decide +kernel
theorem dX5_found_5 : decode cX5_found 5 = .ok (.getfield 10, 3) := by decide +kernel
theorem dX5_found_8 : decode cX5_found 8 = .ok (.invokevirtual 30, 3) := by decide +kernel
theorem dX5_found_11 : decode cX5_found 11 = .ok (.aload_n 0, 1) := by decide +kernel
theorem dX5_found_12 : decode cX5_found 12 = .ok (.aload_n 0, 1) := by decide +kernel
theorem dX5_found_13 : decode cX5_found 13 = .ok (.getfield 10, 3) := by decide +kernel
theorem dX5_found_16 : decode cX5_found 16 = .ok (.iload_n 1, 1) := by decide +kernel
theorem dX5_found_17 : decode cX5_found 17 = .ok (.invokevirtual 46, 3) := by decide +kernel
theorem dX5_found_20 : decode cX5_found 20 = .ok (.invokevirtual 38, 3) := by decide +kernel
theorem dX5_found_23 : decode cX5_found 23 = .ok (.ireturn, 1) := by decide +kernel
set_option maxRecDepth 20000 in
theorem ggX5_setLot_X1_note : GoodIn wsX5_setLot wsX1_note := goodIn_r _ [7, 8, 9, 10, 11, 12, 13, 14, 15, 16, 17, 18, 19, 20, 21, 22, 23, 24, 25, 26, 27, 28, 29, 30, 31, 32, 33, 34, 35, 36, 37, 38, 39, 40, 41, 42, 43, 44, 45, 46, 47, 48, 49, 50, 51, 52, 79, 80, 81, 82, 83, 84, 85, 86, 87, 88, 89, 90, 91, 92, 93, 94, 95, 96, 97, 98, 99, 100, 101, 102, 103] (by decide +kernel) (by decide +kernel)
set_option maxRecDepth 20000 in
theorem gX5_setLot_X1_note : GoodIn wsX5_setLot (wsV RX5 30 RX1 yX1_note wsX1_note) := goodIn_app (goodIn_of _ (by decide +kernel)) ggX5_setLot_X1_note
set_option maxRecDepth 20000 in
theorem ggX5_setLot_X4_setLotState : GoodIn wsX5_setLot wsX4_setLotState := goodIn_r _ [56, 57, 26, 58, 59, 60, 43, 61, 45, 82, 83, 84, 85, 86, 87, 88, 89, 90, 91, 92, 93, 94, 97, 98, 99, 100, 101, 102, 103] (by decide +kernel) (by decide +kernel)
set_option maxRecDepth 20000 in
theorem gX5_setLot_X4_setLotState : GoodIn wsX5_setLot (wsV RX5 49 RX4 yX4_setLotState wsX4_setLotState) := goodIn_app (goodIn_of _ (by decide +kernel)) ggX5_setLot_X4_setLotState
set_option maxRecDepth 20000 in
theorem ggX5_setLot_X5_kept : GoodIn wsX5_setLot wsX5_kept := goodIn_r _ [66, 1, 67, 68, 69, 6, 70, 9, 71, 72, 73, 74, 75, 76, 77, 78, 79, 80, 81] (by decide +kernel) (by decide +kernel)
set_option maxRecDepth 20000 in
theorem gX5_setLot_X5_kept : GoodIn wsX5_setLot (wsV RX5 38 RX5 yX5_kept wsX5_kept) := goodIn_app (goodIn_of _ (by decide +kernel)) ggX5_setLot_X5_kept
theorem dX5_setLot_0 : decode cX5_setLot 0 = .ok (.aload_n 0, 1) := by decide +kernel
theorem dX5_setLot_1 : decode cX5_setLot 1 = .ok (.getfield 19, 3) := by decide +kernel
theorem dX5_setLot_4 : decode cX5_setLot 4 = .ok (.aload_n 0, 1) := by decide +kernel
theorem dX5_setLot_5 : decode cX5_setLot 5 = .ok (.getfield 10, 3) := by decide +kernel
theorem dX5_setLot_8 : decode cX5_setLot 8 = .ok (.invokevirtual 30, 3) := by decide +kernel
theorem dX5_setLot_11 : decode cX5_setLot 11 = .ok (.aload_n 0, 1) := by decide +kernel
theorem dX5_setLot_12 : decode cX5_setLot 12 = .ok (.aload_n 0, 1) := by decide +kernel
theorem dX5_setLot_13 : decode cX5_setLot 13 = .ok (.getfield 10, 3) := by decide +kernel
theorem dX5_setLot_16 : decode cX5_setLot 16 = .ok (.iload_n 1, 1) := by decide +kernel
theorem dX5_setLot_17 : decode cX5_setLot 17 = .ok (.invokevirtual 49, 3) := by decide +kernel
theorem dX5_setLot_20 : decode cX5_setLot 20 = .ok (.invokevirtual 38, 3) := by decide +kernel
theorem dX5_setLot_23 : decode cX5_setLot 23 = .ok (.ireturn, 1) := by decide +kernel
set_option maxRecDepth 20000 in
theorem ggX5_change_X1_note : GoodIn wsX5_change wsX1_note := goodIn_r _ [7, 8, 9, 10, 11, 12, 13, 14, 15, 16, 17, 18, 19, 20, 21, 22, 23, 24, 25, 26, 27, 28, 29, 30, 31, 32, 33, 34, 35, 36, 37, 38, 39, 40, 41, 42, 43, 44, 45, 46, 47, 48, 49, 50, 51, 52, 176, 177, 178, 179, 180, 181, 182, 183, 184, 185, 186, 187, 188, 189, 190, 191, 192, 193, 194, 195, 196, 197, 198, 199, 200] (by decide +kernel) (by decide +kernel)
set_option maxRecDepth 20000 in
theorem gX5_change_X1_note : GoodIn wsX5_change (wsV RX5 30 RX1 yX1_note wsX1_note) := goodIn_app (goodIn_of _ (by decide +kernel)) ggX5_change_X1_note
set_option maxRecDepth 20000 in
theorem ggX5_change_X4_beginChange : GoodIn wsX5_change wsX4_beginChange := goodIn_r _ [56, 22, 26, 21, 27, 23, 25, 57, 58, 59, 13, 60, 15, 61, 62, 63, 35, 64, 37, 65, 66, 67, 43, 68, 45, 69, 70, 71, 72, 73, 74, 75, 76, 77, 78, 79, 80, 81, 82, 83, 84, 85, 86, 87, 88, 38, 89, 90, 91, 92, 93, 94, 95, 96, 97, 98, 99, 100, 101, 102, 103, 104, 105, 106, 107, 108, 16, 109, 110, 111, 112, 46, 47, 49, 50, 51, 52, 113, 114, 115, 116, 117, 118, 119, 120, 121, 122, 29, 30, 24, 31, 123, 124, 125, 126, 28, 127, 128, 129, 130, 131, 132, 133, 134, 135, 136, 137, 138, 139, 140, 141, 142, 143, 144, 145, 146, 147, 148, 149, 150, 151, 152, 153, 154, 155, 156, 157, 158, 32, 33, 34, 36, 39, 18, 19, 20, 179, 180, 181, 182, 183, 184, 185, 186, 187, 188, 189, 190, 191, 192, 193, 194, 195, 196, 197, 198, 199, 200] (by decide +kernel) (by decide +kernel)
set_option maxRecDepth 20000 in
theorem gX5_change_X4_beginChange : GoodIn wsX5_change (wsV RX5 52 RX4 yX4_beginChange wsX4_beginChange) := goodIn_app (goodIn_of _ (by decide +kernel)) ggX5_change_X4_beginChange
set_option maxRecDepth 20000 in
theorem ggX5_change_X5_kept : GoodIn wsX5_change wsX5_kept := goodIn_r _ [163, 1, 164, 165, 166, 6, 167, 9, 168, 169, 170, 171, 172, 173, 174, 175, 176, 177, 178] (by decide +kernel) (by decide +kernel)
set_option maxRecDepth 20000 in
theorem gX5_change_X5_kept : GoodIn wsX5_change (wsV RX5 38 RX5 yX5_kept wsX5_kept) := goodIn_app (goodIn_of _ (by decide +kernel)) ggX5_change_X5_kept
theorem dX5_change_0 : decode cX5_change 0 = .ok (.aload_n 0, 1) := by decide +kernel
theorem dX5_change_1 : decode cX5_change 1 = .ok (.getfield 19, 3) := by decide +kernel
theorem dX5_change_4 : decode cX5_change 4 = .ok (.aload_n 0, 1) := by decide +kernel
theorem dX5_change_5 : decode cX5_change 5 = .ok (.getfield 10, 3) := by decide +kernel
theorem dX5_change_8 : decode cX5_change 8 = .ok (.invokevirtual 30, 3) := by decide +kernel
theorem dX5_change_11 : decode cX5_change 11 = .ok (.aload_n 0, 1) := by decide +kernel
theorem dX5_change_12 : decode cX5_change 12 = .ok (.aload_n 0, 1) := by decide +kernel
theorem dX5_change_13 : decode cX5_change 13 = .ok (.getfield 10, 3) := by decide +kernel
theorem dX5_change_16 : decode cX5_change 16 = .ok (.iload_n 1, 1) := by decide +kernel
theorem dX5_change_17 : decode cX5_change 17 = .ok (.iload_n 2, 1) := by decide +kernel
theorem dX5_change_18 : decode cX5_change 18 = .ok (.invokevirtual 52, 3) := by decide +kernel
theorem dX5_change_21 : decode cX5_change 21 = .ok (.invokevirtual 38, 3) := by decide +kernel
theorem dX5_change_24 : decode cX5_change 24 = .ok (.ireturn, 1) := by decide +kernel
set_option maxRecDepth 20000 in
theorem ggX5_forge_X1_note : GoodIn wsX5_forge wsX1_note := goodIn_r _ [7, 8, 9, 10, 11, 12, 13, 14, 15, 16, 17, 18, 19, 20, 21, 22, 23, 24, 25, 26, 27, 28, 29, 30, 31, 32, 33, 34, 35, 36, 37, 38, 39, 40, 41, 42, 43, 44, 45, 46, 47, 48, 49, 50, 51, 52, 150, 151, 152, 153, 154, 155, 156, 157, 158, 159, 160, 161, 162, 163, 164, 165, 166, 167, 168, 169, 170, 171, 172, 173, 174] (by decide +kernel) (by decide +kernel)
set_option maxRecDepth 20000 in
theorem gX5_forge_X1_note : GoodIn wsX5_forge (wsV RX5 30 RX1 yX1_note wsX1_note) := goodIn_app (goodIn_of _ (by decide +kernel)) ggX5_forge_X1_note
set_option maxRecDepth 20000 in
theorem ggX5_forge_X4_forgeLot : GoodIn wsX5_forge wsX4_forgeLot := goodIn_r _ [56, 26, 23, 57, 58, 59, 13, 60, 15, 61, 62, 63, 64, 25, 65, 66, 67, 68, 22, 69, 70, 71, 35, 72, 73, 74, 75, 76, 37, 38, 77, 78, 79, 43, 80, 46, 52, 81, 82, 83, 84, 85, 86, 87, 88, 89, 90, 91, 92, 93, 94, 95, 96, 51, 97, 98, 99, 100, 28, 27, 101, 102, 103, 104, 105, 106, 107, 108, 109, 110, 111, 112, 113, 114, 115, 116, 21, 117, 118, 119, 120, 16, 121, 122, 123, 124, 125, 126, 127, 128, 129, 130, 131, 132, 24, 32, 33, 34, 36, 39, 18, 19, 20, 153, 154, 155, 156, 157, 158, 159, 160, 161, 162, 163, 164, 165, 166, 167, 168, 169, 170, 171, 172, 173, 174] (by decide +kernel) (by decide +kernel)
set_option maxRecDepth 20000 in
theorem gX5_forge_X4_forgeLot : GoodIn wsX5_forge (wsV RX5 55 RX4 yX4_forgeLot wsX4_forgeLot) := goodIn_app (goodIn_of _ (by decide +kernel)) ggX5_forge_X4_forgeLot
set_option maxRecDepth 20000 in
theorem ggX5_forge_X5_kept : GoodIn wsX5_forge wsX5_kept := goodIn_r _ [137, 1, 138, 139, 140, 6, 141, 9, 142, 143, 144, 145, 146, 147, 148, 149, 150, 151, 152] (by decide +kernel) (by decide +kernel)
set_option maxRecDepth 20000 in
theorem gX5_forge_X5_kept : GoodIn wsX5_forge (wsV RX5 38 RX5 yX5_kept wsX5_kept) := goodIn_app (goodIn_of _ (by decide +kernel)) ggX5_forge_X5_kept
theorem dX5_forge_0 : decode cX5_forge 0 = .ok (.aload_n 0, 1) := by decide +kernel
theorem dX5_forge_1 : decode cX5_forge 1 = .ok (.getfield 19, 3) := by decide +kernel
theorem dX5_forge_4 : decode cX5_forge 4 = .ok (.aload_n 0, 1) := by decide +kernel
theorem dX5_forge_5 : decode cX5_forge 5 = .ok (.getfield 10, 3) := by decide +kernel
theorem dX5_forge_8 : decode cX5_forge 8 = .ok (.invokevirtual 30, 3) := by decide +kernel
theorem dX5_forge_11 : decode cX5_forge 11 = .ok (.aload_n 0, 1) := by decide +kernel
theorem dX5_forge_12 : decode cX5_forge 12 = .ok (.aload_n 0, 1) := by decide +kernel
theorem dX5_forge_13 : decode cX5_forge 13 = .ok (.getfield 10, 3) := by decide +kernel
theorem dX5_forge_16 : decode cX5_forge 16 = .ok (.iload_n 1, 1) := by decide +kernel
theorem dX5_forge_17 : decode cX5_forge 17 = .ok (.invokevirtual 55, 3) := by decide +kernel
theorem dX5_forge_20 : decode cX5_forge 20 = .ok (.invokevirtual 38, 3) := by decide +kernel
theorem dX5_forge_23 : decode cX5_forge 23 = .ok (.ireturn, 1) := by decide +kernel
set_option maxRecDepth 20000 in
theorem ggX5_propose_X1_note : GoodIn wsX5_propose wsX1_note := goodIn_r _ [7, 8, 9, 10, 11, 12, 13, 14, 15, 16, 17, 18, 19, 20, 21, 22, 23, 24, 25, 26, 27, 28, 29, 30, 31, 32, 33, 34, 35, 36, 37, 38, 39, 40, 41, 42, 43, 44, 45, 46, 47, 48, 49, 50, 51, 52, 146, 147, 148, 149, 150, 151, 152, 153, 154, 155, 156, 157, 158, 159, 160, 161, 162, 163, 164, 165, 166, 167, 168, 169, 170] (by decide +kernel) (by decide +kernel)
set_option maxRecDepth 20000 in
theorem gX5_propose_X1_note : GoodIn wsX5_propose (wsV RX5 30 RX1 yX1_note wsX1_note) := goodIn_app (goodIn_of _ (by decide +kernel)) ggX5_propose_X1_note
set_option maxRecDepth 20000 in
theorem ggX5_propose_X4_proposeEntry : GoodIn wsX5_propose wsX4_proposeEntry := goodIn_r _ [56, 21, 27, 57, 58, 59, 13, 60, 15, 61, 62, 63, 64, 65, 66, 67, 68, 22, 23, 69, 70, 71, 35, 72, 73, 74, 75, 76, 37, 38, 77, 78, 79, 80, 16, 81, 82, 83, 84, 29, 30, 24, 31, 85, 86, 87, 88, 28, 25, 89, 90, 91, 92, 93, 94, 95, 96, 97, 98, 99, 100, 101, 102, 103, 104, 105, 106, 107, 108, 109, 110, 111, 112, 113, 114, 115, 116, 117, 118, 119, 120, 121, 122, 123, 124, 125, 126, 127, 128, 32, 33, 34, 36, 39, 18, 19, 20, 149, 150, 151, 152, 153, 154, 155, 156, 157, 158, 159, 160, 161, 162, 163] (by decide +kernel) (by decide +kernel)
set_option maxRecDepth 20000 in
theorem gX5_propose_X4_proposeEntry : GoodIn wsX5_propose (wsV RX5 58 RX4 yX4_proposeEntry wsX4_proposeEntry) := goodIn_app (goodIn_of _ (by decide +kernel)) ggX5_propose_X4_proposeEntry
set_option maxRecDepth 20000 in
theorem ggX5_propose_X5_kept : GoodIn wsX5_propose wsX5_kept := goodIn_r _ [133, 1, 134, 135, 136, 6, 137, 9, 138, 139, 140, 141, 142, 143, 144, 145, 146, 147, 148] (by decide +kernel) (by decide +kernel)
set_option maxRecDepth 20000 in
theorem gX5_propose_X5_kept : GoodIn wsX5_propose (wsV RX5 38 RX5 yX5_kept wsX5_kept) := goodIn_app (goodIn_of _ (by decide +kernel)) ggX5_propose_X5_kept
theorem dX5_propose_0 : decode cX5_propose 0 = .ok (.aload_n 0, 1) := by decide +kernel
theorem dX5_propose_1 : decode cX5_propose 1 = .ok (.getfield 19, 3) := by decide +kernel
theorem dX5_propose_4 : decode cX5_propose 4 = .ok (.aload_n 0, 1) := by decide +kernel
theorem dX5_propose_5 : decode cX5_propose 5 = .ok (.getfield 10, 3) := by decide +kernel
theorem dX5_propose_8 : decode cX5_propose 8 = .ok (.invokevirtual 30, 3) := by decide +kernel
theorem dX5_propose_11 : decode cX5_propose 11 = .ok (.aload_n 0, 1) := by decide +kernel
theorem dX5_propose_12 : decode cX5_propose 12 = .ok (.aload_n 0, 1) := by decide +kernel
theorem dX5_propose_13 : decode cX5_propose 13 = .ok (.getfield 10, 3) := by decide +kernel
theorem dX5_propose_16 : decode cX5_propose 16 = .ok (.iload_n 1, 1) := by decide +kernel
theorem dX5_propose_17 : decode cX5_propose 17 = .ok (.iload_n 2, 1) := by decide +kernel
theorem dX5_propose_18 : decode cX5_propose 18 = .ok (.invokevirtual 58, 3) := by decide +kernel
theorem dX5_propose_21 : decode cX5_propose 21 = .ok (.invokevirtual 38, 3) := by decide +kernel
theorem dX5_propose_24 : decode cX5_propose 24 = .ok (.ireturn, 1) := by decide +kernel
set_option maxRecDepth 20000 in
theorem ggX5_second_X1_note : GoodIn wsX5_second wsX1_note := goodIn_r _ [7, 8, 9, 10, 11, 12, 13, 14, 15, 16, 17, 18, 19, 20, 21, 22, 23, 24, 25, 26, 27, 28, 29, 30, 31, 32, 33, 34, 35, 36, 37, 38, 39, 40, 41, 42, 43, 44, 45, 46, 47, 48, 49, 50, 51, 52, 146, 147, 148, 149, 150, 151, 152, 153, 154, 155, 156, 157, 158, 159, 160, 161, 162, 163, 164, 165, 166, 167, 168, 169, 170] (by decide +kernel) (by decide +kernel)
set_option maxRecDepth 20000 in
theorem gX5_second_X1_note : GoodIn wsX5_second (wsV RX5 30 RX1 yX1_note wsX1_note) := goodIn_app (goodIn_of _ (by decide +kernel)) ggX5_second_X1_note
set_option maxRecDepth 20000 in
theorem ggX5_second_X4_secondEntry : GoodIn wsX5_second wsX4_secondEntry := goodIn_r _ [56, 21, 57, 58, 59, 13, 60, 15, 61, 62, 63, 64, 27, 65, 66, 67, 68, 69, 70, 71, 72, 22, 23, 73, 74, 75, 35, 76, 77, 78, 79, 80, 37, 38, 81, 82, 83, 84, 16, 85, 86, 87, 88, 28, 25, 89, 90, 91, 92, 93, 94, 95, 96, 97, 98, 99, 100, 101, 102, 103, 104, 105, 106, 107, 108, 109, 110, 111, 112, 113, 114, 115, 116, 117, 118, 119, 120, 121, 122, 123, 124, 125, 126, 127, 128, 24, 32, 33, 34, 36, 39, 18, 19, 20, 149, 150, 151, 152, 153, 154, 155, 156, 157, 158, 159, 160, 161, 162, 163] (by decide +kernel) (by decide +kernel)
set_option maxRecDepth 20000 in
theorem gX5_second_X4_secondEntry : GoodIn wsX5_second (wsV RX5 61 RX4 yX4_secondEntry wsX4_secondEntry) := goodIn_app (goodIn_of _ (by decide +kernel)) ggX5_second_X4_secondEntry
set_option maxRecDepth 20000 in
theorem ggX5_second_X5_kept : GoodIn wsX5_second wsX5_kept := goodIn_r _ [133, 1, 134, 135, 136, 6, 137, 9, 138, 139, 140, 141, 142, 143, 144, 145, 146, 147, 148] (by decide +kernel) (by decide +kernel)
set_option maxRecDepth 20000 in
theorem gX5_second_X5_kept : GoodIn wsX5_second (wsV RX5 38 RX5 yX5_kept wsX5_kept) := goodIn_app (goodIn_of _ (by decide +kernel)) ggX5_second_X5_kept
theorem dX5_second_0 : decode cX5_second 0 = .ok (.aload_n 0, 1) := by decide +kernel
theorem dX5_second_1 : decode cX5_second 1 = .ok (.getfield 19, 3) := by decide +kernel
theorem dX5_second_4 : decode cX5_second 4 = .ok (.aload_n 0, 1) := by decide +kernel
theorem dX5_second_5 : decode cX5_second 5 = .ok (.getfield 10, 3) := by decide +kernel
theorem dX5_second_8 : decode cX5_second 8 = .ok (.invokevirtual 30, 3) := by decide +kernel
theorem dX5_second_11 : decode cX5_second 11 = .ok (.aload_n 0, 1) := by decide +kernel
theorem dX5_second_12 : decode cX5_second 12 = .ok (.aload_n 0, 1) := by decide +kernel
theorem dX5_second_13 : decode cX5_second 13 = .ok (.getfield 10, 3) := by decide +kernel
theorem dX5_second_16 : decode cX5_second 16 = .ok (.iload_n 1, 1) := by decide +kernel
theorem dX5_second_17 : decode cX5_second 17 = .ok (.iload_n 2, 1) := by decide +kernel
theorem dX5_second_18 : decode cX5_second 18 = .ok (.invokevirtual 61, 3) := by decide +kernel
theorem dX5_second_21 : decode cX5_second 21 = .ok (.invokevirtual 38, 3) := by decide +kernel
theorem dX5_second_24 : decode cX5_second 24 = .ok (.ireturn, 1) := by decide +kernel
set_option maxRecDepth 20000 in
theorem ggX5_learn_X1_note : GoodIn wsX5_learn wsX1_note := goodIn_r _ [7, 8, 9, 10, 11, 12, 13, 14, 15, 16, 17, 18, 19, 20, 21, 22, 23, 24, 25, 26, 27, 28, 29, 30, 31, 32, 33, 34, 35, 36, 37, 38, 39, 40, 41, 42, 43, 44, 45, 46, 47, 48, 49, 50, 51, 52, 81, 82, 83, 84, 85, 86, 87, 88, 89, 90, 91, 92, 93, 94, 95, 96, 97, 98, 99, 100, 101, 102, 103, 104, 105] (by decide +kernel) (by decide +kernel)
set_option maxRecDepth 20000 in
theorem gX5_learn_X1_note : GoodIn wsX5_learn (wsV RX5 30 RX1 yX1_note wsX1_note) := goodIn_app (goodIn_of _ (by decide +kernel)) ggX5_learn_X1_note
set_option maxRecDepth 20000 in
theorem ggX5_learn_X4_learnEntries : GoodIn wsX5_learn wsX4_learnEntries := goodIn_r _ [56, 16, 28, 21, 57, 58, 59, 60, 61, 62, 63, 13, 64, 15, 84, 85, 86, 87, 88, 89, 90, 91, 92, 93, 94, 95, 96] (by decide +kernel) (by decide +kernel)
set_option maxRecDepth 20000 in
theorem gX5_learn_X4_learnEntries : GoodIn wsX5_learn (wsV RX5 64 RX4 yX4_learnEntries wsX4_learnEntries) := goodIn_app (goodIn_of _ (by decide +kernel)) ggX5_learn_X4_learnEntries
set_option maxRecDepth 20000 in
theorem ggX5_learn_X5_kept : GoodIn wsX5_learn wsX5_kept := goodIn_r _ [69, 1, 70, 71, 72, 6, 73, 9, 74, 75, 76, 59, 77, 78, 79, 80, 81, 82, 83] (by decide +kernel) (by decide +kernel)
set_option maxRecDepth 20000 in
theorem gX5_learn_X5_kept : GoodIn wsX5_learn (wsV RX5 38 RX5 yX5_kept wsX5_kept) := goodIn_app (goodIn_of _ (by decide +kernel)) ggX5_learn_X5_kept
theorem dX5_learn_0 : decode cX5_learn 0 = .ok (.aload_n 0, 1) := by decide +kernel
theorem dX5_learn_1 : decode cX5_learn 1 = .ok (.getfield 19, 3) := by decide +kernel
theorem dX5_learn_4 : decode cX5_learn 4 = .ok (.aload_n 0, 1) := by decide +kernel
theorem dX5_learn_5 : decode cX5_learn 5 = .ok (.getfield 10, 3) := by decide +kernel
theorem dX5_learn_8 : decode cX5_learn 8 = .ok (.invokevirtual 30, 3) := by decide +kernel
theorem dX5_learn_11 : decode cX5_learn 11 = .ok (.aload_n 0, 1) := by decide +kernel
theorem dX5_learn_12 : decode cX5_learn 12 = .ok (.aload_n 0, 1) := by decide +kernel
theorem dX5_learn_13 : decode cX5_learn 13 = .ok (.getfield 10, 3) := by decide +kernel
theorem dX5_learn_16 : decode cX5_learn 16 = .ok (.iload_n 1, 1) := by decide +kernel
theorem dX5_learn_17 : decode cX5_learn 17 = .ok (.invokevirtual 64, 3) := by decide +kernel
theorem dX5_learn_20 : decode cX5_learn 20 = .ok (.invokevirtual 38, 3) := by decide +kernel
theorem dX5_learn_23 : decode cX5_learn 23 = .ok (.ireturn, 1) := by decide +kernel
set_option maxRecDepth 20000 in
theorem ggX5_undo_X1_stepBack : GoodIn wsX5_undo wsX1_stepBack := goodIn_r _ [7, 8, 9, 10, 11, 12, 6, 13, 14, 15, 16, 17, 18, 19, 20, 21, 22, 23, 24, 25, 26, 27, 28, 29, 30, 31, 32, 33, 34, 35, 36, 37, 38, 39, 40, 41, 42, 43, 44, 45, 46, 47, 48, 49, 50, 51, 52, 53, 54, 55, 56, 57, 61, 62, 63, 64, 65, 66, 67, 68, 69, 70, 71, 72, 73, 74, 75, 76, 77, 78, 79, 80, 81, 82, 83, 84, 85] (by decide +kernel) (by decide +kernel)
set_option maxRecDepth 20000 in
theorem gX5_undo_X1_stepBack : GoodIn wsX5_undo (wsV RX5 67 RX1 yX1_stepBack wsX1_stepBack) := goodIn_app (goodIn_of _ (by decide +kernel)) ggX5_undo_X1_stepBack
theorem dX5_undo_0 : decode cX5_undo 0 = .ok (.aload_n 0, 1) := by decide +kernel
theorem dX5_undo_1 : decode cX5_undo 1 = .ok (.getfield 19, 3) := by decide +kernel
theorem dX5_undo_4 : decode cX5_undo 4 = .ok (.aload_n 0, 1) := by decide +kernel
theorem dX5_undo_5 : decode cX5_undo 5 = .ok (.getfield 10, 3) := by decide +kernel
theorem dX5_undo_8 : decode cX5_undo 8 = .ok (.invokevirtual 67, 3) := by decide +kernel
theorem dX5_undo_11 : decode cX5_undo 11 = .ok (.ireturn, 1) := by decide +kernel
set_option maxRecDepth 20000 in
theorem ggX5_append_X3_add : GoodIn wsX5_append wsX3_add := goodIn_r _ [6, 7, 8, 12, 13, 14, 15, 16, 17] (by decide +kernel) (by decide +kernel)
set_option maxRecDepth 20000 in
theorem gX5_append_X3_add : GoodIn wsX5_append (wsV RX5 71 RX3 yX3_add wsX3_add) := goodIn_app (goodIn_of _ (by decide +kernel)) ggX5_append_X3_add
theorem dX5_append_0 : decode cX5_append 0 = .ok (.aload_n 0, 1) := by decide +kernel
theorem dX5_append_1 : decode cX5_append 1 = .ok (.getfield 26, 3) := by decide +kernel
theorem dX5_append_4 : decode cX5_append 4 = .ok (.iload_n 1, 1) := by decide +kernel
theorem dX5_append_5 : decode cX5_append 5 = .ok (.invokevirtual 71, 3) := by decide +kernel
theorem dX5_append_8 : decode cX5_append 8 = .ok (.ireturn, 1) := by decide +kernel
set_option maxRecDepth 20000 in
theorem ggX5_clearText_X3_clear : GoodIn wsX5_clearText wsX3_clear := goodIn_r _ [6, 7, 11, 12, 13, 14, 15, 16] (by decide +kernel) (by decide +kernel)
set_option maxRecDepth 20000 in
theorem gX5_clearText_X3_clear : GoodIn wsX5_clearText (wsV RX5 74 RX3 yX3_clear wsX3_clear) := goodIn_app (goodIn_of _ (by decide +kernel)) ggX5_clearText_X3_clear
theorem dX5_clearText_0 : decode cX5_clearText 0 = .ok (.aload_n 0, 1) := by decide +kernel
theorem dX5_clearText_1 : decode cX5_clearText 1 = .ok (.getfield 26, 3) := by decide +kernel
theorem dX5_clearText_4 : decode cX5_clearText 4 = .ok (.invokevirtual 74, 3) := by decide +kernel
theorem dX5_clearText_7 : decode cX5_clearText 7 = .ok (.ireturn, 1) := by decide +kernel
set_option maxRecDepth 20000 in
theorem ggX5_run_X1_note : GoodIn wsX5_run wsX1_note := goodIn_r _ [8, 9, 10, 11, 12, 13, 14, 15, 16, 17, 18, 19, 20, 21, 22, 23, 24, 25, 26, 27, 28, 29, 30, 31, 32, 33, 34, 35, 36, 37, 38, 39, 40, 41, 42, 43, 44, 45, 46, 47, 48, 49, 50, 51, 52, 53, 236, 237, 238, 239, 240, 241, 242, 243, 244, 245, 246, 247, 248, 249, 250, 251, 252, 253, 254, 255, 256, 257, 258, 259, 260] (by decide +kernel) (by decide +kernel)
set_option maxRecDepth 20000 in
theorem gX5_run_X1_note : GoodIn wsX5_run (wsV RX5 30 RX1 yX1_note wsX1_note) := goodIn_app (goodIn_of _ (by decide +kernel)) ggX5_run_X1_note
set_option maxRecDepth 20000 in
theorem ggX5_run_X3_rewind : GoodIn wsX5_run wsX3_rewind := goodIn_r _ [58, 59, 261, 262, 263, 264, 265, 266] (by decide +kernel) (by decide +kernel)
set_option maxRecDepth 20000 in
theorem gX5_run_X3_rewind : GoodIn wsX5_run (wsV RX5 77 RX3 yX3_rewind wsX3_rewind) := goodIn_app (goodIn_of _ (by decide +kernel)) ggX5_run_X3_rewind
set_option maxRecDepth 20000 in
theorem ggX5_run_X3_isRead : GoodIn wsX5_run wsX3_isRead := goodIn_r _ [63, 59, 64, 261, 262, 263, 264, 265, 266] (by decide +kernel) (by decide +kernel)
set_option maxRecDepth 20000 in
theorem gX5_run_X3_isRead : GoodIn wsX5_run (wsV RX5 80 RX3 yX3_isRead wsX3_isRead) := goodIn_app (goodIn_of _ (by decide +kernel)) ggX5_run_X3_isRead
set_option maxRecDepth 20000 in
theorem ggX5_run_X3_place : GoodIn wsX5_run wsX3_place := goodIn_r _ [68, 59, 261, 262, 263, 264, 265, 266] (by decide +kernel) (by decide +kernel)
set_option maxRecDepth 20000 in
theorem gX5_run_X3_place : GoodIn wsX5_run (wsV RX5 84 RX3 yX3_place wsX3_place) := goodIn_app (goodIn_of _ (by decide +kernel)) ggX5_run_X3_place
set_option maxRecDepth 20000 in
theorem ggX5_run_X3_readCommand : GoodIn wsX5_run wsX3_readCommand := goodIn_r _ [72, 73, 59, 74, 75, 76, 77, 78, 57, 79, 64, 80, 81, 82, 83, 84, 85, 86, 87, 88, 89, 90, 91, 261, 262, 263, 264, 265, 266] (by decide +kernel) (by decide +kernel)
set_option maxRecDepth 20000 in
theorem gX5_run_X3_readCommand : GoodIn wsX5_run (wsV RX5 87 RX3 yX3_readCommand wsX3_readCommand) := goodIn_app (goodIn_of _ (by decide +kernel)) ggX5_run_X3_readCommand
set_option maxRecDepth 20000 in
theorem ggX5_run_X5_failedRun : GoodIn wsX5_run wsX5_failedRun := goodIn_r _ [96, 1, 2, 97, 98, 99, 7, 100, 9, 10, 11, 12, 13, 14, 15, 16, 17, 18, 19, 20, 21, 22, 23, 24, 25, 26, 27, 28, 29, 30, 31, 32, 33, 34, 35, 36, 37, 38, 39, 40, 41, 42, 43, 44, 45, 46, 47, 48, 49, 50, 51, 52, 53, 233, 234, 235, 236, 237, 238, 239, 240, 241, 242, 243, 244, 245, 246, 247, 248, 249, 250, 251, 252, 253, 254, 255, 256, 257, 258, 259, 260] (by decide +kernel) (by decide +kernel)
set_option maxRecDepth 20000 in
theorem gX5_run_X5_failedRun : GoodIn wsX5_run (wsV RX5 90 RX5 yX5_failedRun wsX5_failedRun) := goodIn_app (goodIn_of _ (by decide +kernel)) ggX5_run_X5_failedRun
set_option maxRecDepth 20000 in
theorem ggX5_run_X3_letter : GoodIn wsX5_run wsX3_letter := goodIn_r _ [104, 73, 261, 262, 263, 264, 265, 266] (by decide +kernel) (by decide +kernel)
set_option maxRecDepth 20000 in
theorem gX5_run_X3_letter : GoodIn wsX5_run (wsV RX5 93 RX3 yX3_letter wsX3_letter) := goodIn_app (goodIn_of _ (by decide +kernel)) ggX5_run_X3_letter
set_option maxRecDepth 20000 in
theorem ggX5_run_X3_villagerRead : GoodIn wsX5_run wsX3_villagerRead := goodIn_r _ [108, 74, 261, 262, 263, 264, 265, 266] (by decide +kernel) (by decide +kernel)
set_option maxRecDepth 20000 in
theorem gX5_run_X3_villagerRead : GoodIn wsX5_run (wsV RX5 96 RX3 yX3_villagerRead wsX3_villagerRead) := goodIn_app (goodIn_of _ (by decide +kernel)) ggX5_run_X3_villagerRead
set_option maxRecDepth 20000 in
theorem ggX5_run_X3_numberRead : GoodIn wsX5_run wsX3_numberRead := goodIn_r _ [112, 75, 261, 262, 263, 264, 265, 266] (by decide +kernel) (by decide +kernel)
set_option maxRecDepth 20000 in
theorem gX5_run_X3_numberRead : GoodIn wsX5_run (wsV RX5 99 RX3 yX3_numberRead wsX3_numberRead) := goodIn_app (goodIn_of _ (by decide +kernel)) ggX5_run_X3_numberRead
set_option maxRecDepth 20000 in
theorem ggX5_run_X5_callCommand : GoodIn wsX5_run wsX5_callCommand := goodIn_r _ [116, 2, 117, 118, 119, 14, 120, 22, 28, 121, 122, 123, 124, 16, 125, 126, 127, 128, 129, 130, 131, 132, 23, 24, 133, 134, 135, 36, 136, 137, 138, 139, 140, 38, 39, 141, 142, 143, 144, 17, 145, 146, 147, 148, 30, 31, 25, 32, 149, 150, 151, 152, 29, 26, 153, 154, 155, 156, 157, 158, 159, 160, 161, 162, 163, 164, 165, 166, 167, 168, 169, 170, 171, 172, 173, 174, 175, 176, 177, 178, 179, 180, 181, 182, 183, 184, 185, 186, 187, 188, 189, 190, 191, 192, 33, 34, 35, 37, 40, 19, 20, 21, 193, 194, 195, 196, 197, 198, 199, 200, 201, 202, 203, 204, 205, 206, 207, 208, 209, 210, 211, 212, 213, 214, 215, 216, 233, 234, 235, 239, 240, 241, 242, 243, 244, 245, 246, 247, 248, 249, 250, 251, 252, 253] (by decide +kernel) (by decide +kernel)
set_option maxRecDepth 20000 in
theorem gX5_run_X5_callCommand : GoodIn wsX5_run (wsV RX5 102 RX5 yX5_callCommand wsX5_callCommand) := goodIn_app (goodIn_of _ (by decide +kernel)) ggX5_run_X5_callCommand
set_option maxRecDepth 20000 in
theorem ggX5_run_X3_clear : GoodIn wsX5_run wsX3_clear := goodIn_r _ [220, 64, 261, 262, 263, 264, 265, 266] (by decide +kernel) (by decide +kernel)
set_option maxRecDepth 20000 in
theorem gX5_run_X3_clear : GoodIn wsX5_run (wsV RX5 74 RX3 yX3_clear wsX3_clear) := goodIn_app (goodIn_of _ (by decide +kernel)) ggX5_run_X3_clear
set_option maxRecDepth 20000 in
theorem ggX5_run_X5_kept : GoodIn wsX5_run wsX5_kept := goodIn_r _ [224, 1, 225, 226, 227, 7, 228, 10, 229, 230, 231, 207, 232, 233, 234, 235, 236, 237, 238] (by decide +kernel) (by decide +kernel)
set_option maxRecDepth 20000 in
theorem gX5_run_X5_kept : GoodIn wsX5_run (wsV RX5 38 RX5 yX5_kept wsX5_kept) := goodIn_app (goodIn_of _ (by decide +kernel)) ggX5_run_X5_kept
theorem dX5_run_0 : decode cX5_run 0 = .ok (.aload_n 0, 1) := by decide +kernel
theorem dX5_run_1 : decode cX5_run 1 = .ok (.getfield 19, 3) := by decide +kernel
theorem dX5_run_4 : decode cX5_run 4 = .ok (.aload_n 0, 1) := by decide +kernel
theorem dX5_run_5 : decode cX5_run 5 = .ok (.getfield 10, 3) := by decide +kernel
theorem dX5_run_8 : decode cX5_run 8 = .ok (.invokevirtual 30, 3) := by decide +kernel
theorem dX5_run_11 : decode cX5_run 11 = .ok (.aload_n 0, 1) := by decide +kernel
theorem dX5_run_12 : decode cX5_run 12 = .ok (.getfield 26, 3) := by decide +kernel
theorem dX5_run_15 : decode cX5_run 15 = .ok (.invokevirtual 77, 3) := by decide +kernel
theorem dX5_run_18 : decode cX5_run 18 = .ok (.iconst 0, 1) := by decide +kernel
theorem dX5_run_19 : decode cX5_run 19 = .ok (.istore_n 1, 1) := by decide +kernel
theorem dX5_run_20 : decode cX5_run 20 = .ok (.iload_n 1, 1) := by decide +kernel
theorem dX5_run_21 : decode cX5_run 21 = .ok (.bipush 60, 2) := by decide +kernel
theorem dX5_run_23 : decode cX5_run 23 = .ok (.if_icmp .ge 83, 3) := by decide +kernel
theorem dX5_run_26 : decode cX5_run 26 = .ok (.aload_n 0, 1) := by decide +kernel
theorem dX5_run_27 : decode cX5_run 27 = .ok (.getfield 26, 3) := by decide +kernel
theorem dX5_run_30 : decode cX5_run 30 = .ok (.invokevirtual 80, 3) := by decide +kernel
theorem dX5_run_33 : decode cX5_run 33 = .ok (.ifCond .ne 73, 3) := by decide +kernel
theorem dX5_run_36 : decode cX5_run 36 = .ok (.aload_n 0, 1) := by decide +kernel
theorem dX5_run_37 : decode cX5_run 37 = .ok (.getfield 26, 3) := by decide +kernel
theorem dX5_run_40 : decode cX5_run 40 = .ok (.invokevirtual 84, 3) := by decide +kernel
theorem dX5_run_43 : decode cX5_run 43 = .ok (.istore_n 2, 1) := by decide +kernel
theorem dX5_run_44 : decode cX5_run 44 = .ok (.aload_n 0, 1) := by decide +kernel
theorem dX5_run_45 : decode cX5_run 45 = .ok (.getfield 26, 3) := by decide +kernel
theorem dX5_run_48 : decode cX5_run 48 = .ok (.invokevirtual 87, 3) := by decide +kernel
theorem dX5_run_51 : decode cX5_run 51 = .ok (.ifCond .ne 15, 3) := by decide +kernel
theorem dX5_run_54 : decode cX5_run 54 = .ok (.aload_n 0, 1) := by decide +kernel
theorem dX5_run_55 : decode cX5_run 55 = .ok (.aload_n 0, 1) := by decide +kernel
theorem dX5_run_56 : decode cX5_run 56 = .ok (.getfield 26, 3) := by decide +kernel
theorem dX5_run_59 : decode cX5_run 59 = .ok (.invokevirtual 84, 3) := by decide +kernel
theorem dX5_run_62 : decode cX5_run 62 = .ok (.invokevirtual 90, 3) := by decide +kernel
theorem dX5_run_65 : decode cX5_run 65 = .ok (.ireturn, 1) := by decide +kernel
theorem dX5_run_66 : decode cX5_run 66 = .ok (.aload_n 0, 1) := by decide +kernel
theorem dX5_run_67 : decode cX5_run 67 = .ok (.aload_n 0, 1) := by decide +kernel
theorem dX5_run_68 : decode cX5_run 68 = .ok (.getfield 26, 3) := by decide +kernel
theorem dX5_run_71 : decode cX5_run 71 = .ok (.invokevirtual 93, 3) := by decide +kernel
theorem dX5_run_74 : decode cX5_run 74 = .ok (.aload_n 0, 1) := by decide +kernel
theorem dX5_run_75 : decode cX5_run 75 = .ok (.getfield 26, 3) := by decide +kernel
theorem dX5_run_78 : decode cX5_run 78 = .ok (.invokevirtual 96, 3) := by decide +kernel
theorem dX5_run_81 : decode cX5_run 81 = .ok (.aload_n 0, 1) := by decide +kernel
theorem dX5_run_82 : decode cX5_run 82 = .ok (.getfield 26, 3) := by decide +kernel
theorem dX5_run_85 : decode cX5_run 85 = .ok (.invokevirtual 99, 3) := by decide +kernel
theorem dX5_run_88 : decode cX5_run 88 = .ok (.invokevirtual 102, 3) := by decide +kernel
theorem dX5_run_91 : decode cX5_run 91 = .ok (.ifCond .ge 9, 3) := by decide +kernel
theorem dX5_run_94 : decode cX5_run 94 = .ok (.aload_n 0, 1) := by decide +kernel
theorem dX5_run_95 : decode cX5_run 95 = .ok (.iload_n 2, 1) := by decide +kernel
theorem dX5_run_96 : decode cX5_run 96 = .ok (.invokevirtual 90, 3) := by decide +kernel
theorem dX5_run_99 : decode cX5_run 99 = .ok (.ireturn, 1) := by decide +kernel
theorem dX5_run_100 : decode cX5_run 100 = .ok (.iinc 1 1, 3) := by decide +kernel
theorem dX5_run_103 : decode cX5_run 103 = .ok (.goto (-83), 3) := by decide +kernel
theorem dX5_run_106 : decode cX5_run 106 = .ok (.aload_n 0, 1) := by decide +kernel
theorem dX5_run_107 : decode cX5_run 107 = .ok (.getfield 26, 3) := by decide +kernel
theorem dX5_run_110 : decode cX5_run 110 = .ok (.invokevirtual 74, 3) := by decide +kernel
theorem dX5_run_113 : decode cX5_run 113 = .ok (.pop, 1) := by decide +kernel
theorem dX5_run_114 : decode cX5_run 114 = .ok (.aload_n 0, 1) := by decide +kernel
theorem dX5_run_115 : decode cX5_run 115 = .ok (.iload_n 1, 1) := by decide +kernel
theorem dX5_run_116 : decode cX5_run 116 = .ok (.invokevirtual 38, 3) := by decide +kernel
theorem dX5_run_119 : decode cX5_run 119 = .ok (.ireturn, 1) := by decide +kernel
set_option maxRecDepth 20000 in
theorem ggX5_count_X1_length : GoodIn wsX5_count wsX1_length := goodIn_r _ [8, 9, 67, 68, 69] (by decide +kernel) (by decide +kernel)
set_option maxRecDepth 20000 in
theorem gX5_count_X1_length : GoodIn wsX5_count (wsV RX5 106 RX1 yX1_length wsX1_length) := goodIn_app (goodIn_of _ (by decide +kernel)) ggX5_count_X1_length
set_option maxRecDepth 20000 in
theorem ggX5_count_X3_length : GoodIn wsX5_count wsX3_length := goodIn_r _ [14, 15, 70, 71, 72, 73, 74, 75] (by decide +kernel) (by decide +kernel)
set_option maxRecDepth 20000 in
theorem gX5_count_X3_length : GoodIn wsX5_count (wsV RX5 109 RX3 yX3_length wsX3_length) := goodIn_app (goodIn_of _ (by decide +kernel)) ggX5_count_X3_length
set_option maxRecDepth 20000 in
theorem ggX5_count_X4_tally : GoodIn wsX5_count wsX4_tally := goodIn_r _ [20, 21, 22, 23, 24, 25, 26, 27, 28, 29, 19, 30, 31, 32, 33, 34, 35, 36, 37, 38, 39, 40, 41, 42, 43, 44, 45, 46, 47, 48, 49, 50, 51, 52, 53, 54, 55, 56, 57, 58, 59, 60, 61, 62, 63, 76, 77, 78, 79, 80, 81, 82, 83, 84, 85, 86, 87, 88, 89, 90, 91, 92, 93, 94, 95, 96, 97] (by decide +kernel) (by decide +kernel)
set_option maxRecDepth 20000 in
theorem gX5_count_X4_tally : GoodIn wsX5_count (wsV RX5 110 RX4 yX4_tally wsX4_tally) := goodIn_app (goodIn_of _ (by decide +kernel)) ggX5_count_X4_tally
theorem dX5_count_0 : decode cX5_count 0 = .ok (.iload_n 1, 1) := by decide +kernel
theorem dX5_count_1 : decode cX5_count 1 = .ok (.lookupswitch 43 #[(10, 27), (11, 35)], 27) := by decide +kernel
theorem dX5_count_28 : decode cX5_count 28 = .ok (.aload_n 0, 1) := by decide +kernel
theorem dX5_count_29 : decode cX5_count 29 = .ok (.getfield 19, 3) := by decide +kernel
theorem dX5_count_32 : decode cX5_count 32 = .ok (.invokevirtual 106, 3) := by decide +kernel
theorem dX5_count_35 : decode cX5_count 35 = .ok (.ireturn, 1) := by decide +kernel
theorem dX5_count_36 : decode cX5_count 36 = .ok (.aload_n 0, 1) := by decide +kernel
theorem dX5_count_37 : decode cX5_count 37 = .ok (.getfield 26, 3) := by decide +kernel
theorem dX5_count_40 : decode cX5_count 40 = .ok (.invokevirtual 109, 3) := by decide +kernel
theorem dX5_count_43 : decode cX5_count 43 = .ok (.ireturn, 1) := by decide +kernel
theorem dX5_count_44 : decode cX5_count 44 = .ok (.aload_n 0, 1) := by decide +kernel
theorem dX5_count_45 : decode cX5_count 45 = .ok (.getfield 10, 3) := by decide +kernel
theorem dX5_count_48 : decode cX5_count 48 = .ok (.iload_n 1, 1) := by decide +kernel
theorem dX5_count_49 : decode cX5_count 49 = .ok (.invokevirtual 110, 3) := by decide +kernel
theorem dX5_count_52 : decode cX5_count 52 = .ok (.ireturn, 1) := by decide +kernel
set_option maxRecDepth 20000 in
theorem ggX5_elder_X4_elderOf : GoodIn wsX5_elder wsX4_elderOf := goodIn_r _ [6, 7, 8, 9, 10, 11, 12, 13, 14, 15, 16, 17, 18, 19, 20, 21, 22, 23, 5, 24, 25, 29, 30, 31, 32, 33, 34, 35, 36, 37, 38, 39, 40, 41, 42, 43] (by decide +kernel) (by decide +kernel)
set_option maxRecDepth 20000 in
theorem gX5_elder_X4_elderOf : GoodIn wsX5_elder (wsV RX5 113 RX4 yX4_elderOf wsX4_elderOf) := goodIn_app (goodIn_of _ (by decide +kernel)) ggX5_elder_X4_elderOf
theorem dX5_elder_0 : decode cX5_elder 0 = .ok (.aload_n 0, 1) := by decide +kernel
theorem dX5_elder_1 : decode cX5_elder 1 = .ok (.getfield 10, 3) := by decide +kernel
theorem dX5_elder_4 : decode cX5_elder 4 = .ok (.iload_n 1, 1) := by decide +kernel
theorem dX5_elder_5 : decode cX5_elder 5 = .ok (.iload_n 2, 1) := by decide +kernel
theorem dX5_elder_6 : decode cX5_elder 6 = .ok (.invokevirtual 113, 3) := by decide +kernel
theorem dX5_elder_9 : decode cX5_elder 9 = .ok (.ireturn, 1) := by decide +kernel
set_option maxRecDepth 20000 in
theorem ggX5_villager_X4_aboutVillager : GoodIn wsX5_villager wsX4_aboutVillager := goodIn_r _ [6, 7, 8, 9, 10, 11, 12, 13, 14, 5, 15, 16, 17, 18, 19, 20, 21, 22, 23, 24, 25, 26, 27, 28, 29, 30, 34, 35, 36, 37, 38, 39, 40, 41, 42, 43, 44, 45, 46, 47, 48, 49, 50, 51, 52, 53, 54, 55] (by decide +kernel) (by decide +kernel)
set_option maxRecDepth 20000 in
theorem gX5_villager_X4_aboutVillager : GoodIn wsX5_villager (wsV RX5 116 RX4 yX4_aboutVillager wsX4_aboutVillager) := goodIn_app (goodIn_of _ (by decide +kernel)) ggX5_villager_X4_aboutVillager
theorem dX5_villager_0 : decode cX5_villager 0 = .ok (.aload_n 0, 1) := by decide +kernel
theorem dX5_villager_1 : decode cX5_villager 1 = .ok (.getfield 10, 3) := by decide +kernel
theorem dX5_villager_4 : decode cX5_villager 4 = .ok (.iload_n 1, 1) := by decide +kernel
theorem dX5_villager_5 : decode cX5_villager 5 = .ok (.iload_n 2, 1) := by decide +kernel
theorem dX5_villager_6 : decode cX5_villager 6 = .ok (.invokevirtual 116, 3) := by decide +kernel
theorem dX5_villager_9 : decode cX5_villager 9 = .ok (.ireturn, 1) := by decide +kernel
set_option maxRecDepth 20000 in
theorem ggX5_entry_X4_aboutEntry : GoodIn wsX5_entry wsX4_aboutEntry := goodIn_r _ [6, 7, 8, 9, 10, 11, 12, 13, 14, 15, 5, 16, 17, 18, 19, 20, 21, 22, 23, 24, 25, 26, 27, 28, 29, 30, 31, 32, 33, 34, 35, 36, 37, 38, 39, 40, 41, 42, 43, 44, 45, 46, 47, 48, 49, 50, 51, 52, 53, 54, 55, 59, 60, 61, 62, 63, 64, 65, 66, 67, 68, 69, 70, 71, 72, 73] (by decide +kernel) (by decide +kernel)
set_option maxRecDepth 20000 in
theorem gX5_entry_X4_aboutEntry : GoodIn wsX5_entry (wsV RX5 119 RX4 yX4_aboutEntry wsX4_aboutEntry) := goodIn_app (goodIn_of _ (by decide +kernel)) ggX5_entry_X4_aboutEntry
theorem dX5_entry_0 : decode cX5_entry 0 = .ok (.aload_n 0, 1) := by decide +kernel
theorem dX5_entry_1 : decode cX5_entry 1 = .ok (.getfield 10, 3) := by decide +kernel
theorem dX5_entry_4 : decode cX5_entry 4 = .ok (.iload_n 1, 1) := by decide +kernel
theorem dX5_entry_5 : decode cX5_entry 5 = .ok (.iload_n 2, 1) := by decide +kernel
theorem dX5_entry_6 : decode cX5_entry 6 = .ok (.invokevirtual 119, 3) := by decide +kernel
theorem dX5_entry_9 : decode cX5_entry 9 = .ok (.ireturn, 1) := by decide +kernel
set_option maxRecDepth 20000 in
theorem ggX5_draw_X4_aboutDraw : GoodIn wsX5_draw wsX4_aboutDraw := goodIn_r _ [6, 7, 8, 9, 10, 11, 12, 13, 14, 15, 16, 17, 18, 19, 20, 21, 22, 26, 27, 28, 29, 30, 31, 32, 33, 34, 35, 36, 37, 38, 39, 40, 41, 42, 43, 44, 45] (by decide +kernel) (by decide +kernel)
set_option maxRecDepth 20000 in
theorem gX5_draw_X4_aboutDraw : GoodIn wsX5_draw (wsV RX5 122 RX4 yX4_aboutDraw wsX4_aboutDraw) := goodIn_app (goodIn_of _ (by decide +kernel)) ggX5_draw_X4_aboutDraw
theorem dX5_draw_0 : decode cX5_draw 0 = .ok (.aload_n 0, 1) := by decide +kernel
theorem dX5_draw_1 : decode cX5_draw 1 = .ok (.getfield 10, 3) := by decide +kernel
theorem dX5_draw_4 : decode cX5_draw 4 = .ok (.iload_n 1, 1) := by decide +kernel
theorem dX5_draw_5 : decode cX5_draw 5 = .ok (.iload_n 2, 1) := by decide +kernel
theorem dX5_draw_6 : decode cX5_draw 6 = .ok (.invokevirtual 122, 3) := by decide +kernel
theorem dX5_draw_9 : decode cX5_draw 9 = .ok (.ireturn, 1) := by decide +kernel
set_option maxRecDepth 20000 in
theorem ggX5_missing_X4_missingElders : GoodIn wsX5_missing wsX4_missingElders := goodIn_r _ [6, 7, 8, 9, 10, 5, 11, 12, 13, 14, 15, 16, 17, 18, 19, 20, 21, 22, 23, 24, 25, 26, 27, 28, 29, 30, 31, 32, 33, 34, 35, 36, 37, 38, 39, 40, 41, 42, 43, 44, 45, 46, 47, 48, 49, 50, 51, 52, 53, 54, 55, 56, 57, 58, 59, 60, 61, 62, 63, 64, 65, 66, 67, 68, 69, 70, 71, 72, 73, 74, 75, 76, 77, 78, 79, 80, 81, 82, 83, 84, 85, 86, 87, 88, 92, 93, 94, 95, 96, 97, 98, 99, 100, 101, 102, 103, 104, 105, 106] (by decide +kernel) (by decide +kernel)
set_option maxRecDepth 20000 in
theorem gX5_missing_X4_missingElders : GoodIn wsX5_missing (wsV RX5 125 RX4 yX4_missingElders wsX4_missingElders) := goodIn_app (goodIn_of _ (by decide +kernel)) ggX5_missing_X4_missingElders
theorem dX5_missing_0 : decode cX5_missing 0 = .ok (.aload_n 0, 1) := by decide +kernel
theorem dX5_missing_1 : decode cX5_missing 1 = .ok (.getfield 10, 3) := by decide +kernel
theorem dX5_missing_4 : decode cX5_missing 4 = .ok (.iload_n 1, 1) := by decide +kernel
theorem dX5_missing_5 : decode cX5_missing 5 = .ok (.invokevirtual 125, 3) := by decide +kernel
theorem dX5_missing_8 : decode cX5_missing 8 = .ok (.ireturn, 1) := by decide +kernel
set_option maxRecDepth 20000 in
theorem ggX5_reachable_X4_reachableEntries : GoodIn wsX5_reachable wsX4_reachableEntries := goodIn_r _ [6, 7, 8, 9, 10, 11, 5, 12, 13, 14, 15, 16, 17, 18, 19, 20, 21, 22, 23, 24, 25, 26, 27, 28, 29, 30, 31, 32, 33, 34, 35, 36, 37, 38, 39, 40, 41, 42, 43, 44, 45, 46, 47, 48, 49, 50, 51, 52, 53, 54, 55, 56, 57, 58, 59, 60, 61, 65, 66, 67, 68, 69, 70, 71, 72, 73, 74, 75, 76, 77, 78, 79] (by decide +kernel) (by decide +kernel)
set_option maxRecDepth 20000 in
theorem gX5_reachable_X4_reachableEntries : GoodIn wsX5_reachable (wsV RX5 128 RX4 yX4_reachableEntries wsX4_reachableEntries) := goodIn_app (goodIn_of _ (by decide +kernel)) ggX5_reachable_X4_reachableEntries
theorem dX5_reachable_0 : decode cX5_reachable 0 = .ok (.aload_n 0, 1) := by decide +kernel
theorem dX5_reachable_1 : decode cX5_reachable 1 = .ok (.getfield 10, 3) := by decide +kernel
theorem dX5_reachable_4 : decode cX5_reachable 4 = .ok (.invokevirtual 128, 3) := by decide +kernel
theorem dX5_reachable_7 : decode cX5_reachable 7 = .ok (.ireturn, 1) := by decide +kernel
set_option maxRecDepth 20000 in
theorem ggX5_nextDrawn_X4_drawnNext : GoodIn wsX5_nextDrawn wsX4_drawnNext := goodIn_r _ [6, 7, 8, 9, 10, 11, 12, 13, 14, 15, 16, 17, 5, 18, 19, 20, 21, 22, 23, 24, 25, 26, 27, 28, 29, 30, 31, 32, 33, 34, 35, 36, 37, 38, 39, 40, 41, 42, 43, 44, 45, 46, 47, 48, 49, 50, 51, 55, 56, 57, 58, 59, 60, 61, 62, 63, 64, 65, 66, 67, 68, 69, 70, 71, 72, 73, 74, 75, 76] (by decide +kernel) (by decide +kernel)
set_option maxRecDepth 20000 in
theorem gX5_nextDrawn_X4_drawnNext : GoodIn wsX5_nextDrawn (wsV RX5 131 RX4 yX4_drawnNext wsX4_drawnNext) := goodIn_app (goodIn_of _ (by decide +kernel)) ggX5_nextDrawn_X4_drawnNext
theorem dX5_nextDrawn_0 : decode cX5_nextDrawn 0 = .ok (.aload_n 0, 1) := by decide +kernel
theorem dX5_nextDrawn_1 : decode cX5_nextDrawn 1 = .ok (.getfield 10, 3) := by decide +kernel
theorem dX5_nextDrawn_4 : decode cX5_nextDrawn 4 = .ok (.iload_n 1, 1) := by decide +kernel
theorem dX5_nextDrawn_5 : decode cX5_nextDrawn 5 = .ok (.invokevirtual 131, 3) := by decide +kernel
theorem dX5_nextDrawn_8 : decode cX5_nextDrawn 8 = .ok (.ireturn, 1) := by decide +kernel
set_option maxRecDepth 20000 in
theorem ggX5_spare_X4_spareVillagers : GoodIn wsX5_spare wsX4_spareVillagers := goodIn_r _ [6, 7, 8, 9, 10, 11, 12, 13, 14, 15, 16, 17, 18, 5, 19, 20, 21, 22, 23, 24, 25, 26, 27, 28, 29, 30, 31, 32, 33, 34, 35, 36, 37, 38, 39, 40, 41, 42, 43, 44, 45, 46, 47, 48, 49, 50, 51, 52, 53, 54, 55, 56, 57, 58, 59, 60, 61, 62, 63, 64, 65, 66, 67, 68, 69, 70, 71, 72, 73, 74, 75, 76, 77, 78, 79, 80, 81, 82, 83, 87, 88, 89, 90, 91, 92, 93, 94, 95, 96, 97, 98, 99, 100, 101] (by decide +kernel) (by decide +kernel)
set_option maxRecDepth 20000 in
theorem gX5_spare_X4_spareVillagers : GoodIn wsX5_spare (wsV RX5 134 RX4 yX4_spareVillagers wsX4_spareVillagers) := goodIn_app (goodIn_of _ (by decide +kernel)) ggX5_spare_X4_spareVillagers
theorem dX5_spare_0 : decode cX5_spare 0 = .ok (.aload_n 0, 1) := by decide +kernel
theorem dX5_spare_1 : decode cX5_spare 1 = .ok (.getfield 10, 3) := by decide +kernel
theorem dX5_spare_4 : decode cX5_spare 4 = .ok (.invokevirtual 134, 3) := by decide +kernel
theorem dX5_spare_7 : decode cX5_spare 7 = .ok (.ireturn, 1) := by decide +kernel
set_option maxRecDepth 20000 in
theorem ggX5_lotFor_X4_lotToDraw : GoodIn wsX5_lotFor wsX4_lotToDraw := goodIn_r _ [6, 7, 8, 9, 10, 11, 5, 12, 13, 14, 15, 16, 17, 18, 19, 20, 21, 22, 23, 24, 25, 26, 27, 28, 29, 30, 31, 32, 33, 34, 35, 36, 37, 38, 39, 40, 41, 42, 43, 44, 45, 46, 50, 51, 52, 53, 54, 55, 56, 57, 58, 59, 60, 61, 62, 63, 64] (by decide +kernel) (by decide +kernel)
set_option maxRecDepth 20000 in
theorem gX5_lotFor_X4_lotToDraw : GoodIn wsX5_lotFor (wsV RX5 137 RX4 yX4_lotToDraw wsX4_lotToDraw) := goodIn_app (goodIn_of _ (by decide +kernel)) ggX5_lotFor_X4_lotToDraw
theorem dX5_lotFor_0 : decode cX5_lotFor 0 = .ok (.aload_n 0, 1) := by decide +kernel
theorem dX5_lotFor_1 : decode cX5_lotFor 1 = .ok (.getfield 10, 3) := by decide +kernel
theorem dX5_lotFor_4 : decode cX5_lotFor 4 = .ok (.iload_n 1, 1) := by decide +kernel
theorem dX5_lotFor_5 : decode cX5_lotFor 5 = .ok (.iload_n 2, 1) := by decide +kernel
theorem dX5_lotFor_6 : decode cX5_lotFor 6 = .ok (.invokevirtual 137, 3) := by decide +kernel
theorem dX5_lotFor_9 : decode cX5_lotFor 9 = .ok (.ireturn, 1) := by decide +kernel
set_option maxRecDepth 20000 in
theorem ggX5_kept_X1_keep : GoodIn wsX5_kept wsX1_keep := goodIn_r _ [6, 7, 8, 9, 10, 11, 12, 16, 17, 18] (by decide +kernel) (by decide +kernel)
set_option maxRecDepth 20000 in
theorem gX5_kept_X1_keep : GoodIn wsX5_kept (wsV RX5 140 RX1 yX1_keep wsX1_keep) := goodIn_app (goodIn_of _ (by decide +kernel)) ggX5_kept_X1_keep
theorem dX5_kept_0 : decode cX5_kept 0 = .ok (.iload_n 1, 1) := by decide +kernel
theorem dX5_kept_1 : decode cX5_kept 1 = .ok (.ifCond .lt 10, 3) := by decide +kernel
theorem dX5_kept_4 : decode cX5_kept 4 = .ok (.aload_n 0, 1) := by decide +kernel
theorem dX5_kept_5 : decode cX5_kept 5 = .ok (.getfield 19, 3) := by decide +kernel
theorem dX5_kept_8 : decode cX5_kept 8 = .ok (.invokevirtual 140, 3) := by decide +kernel
theorem dX5_kept_11 : decode cX5_kept 11 = .ok (.iload_n 1, 1) := by decide +kernel
theorem dX5_kept_12 : decode cX5_kept 12 = .ok (.ireturn, 1) := by decide +kernel
set_option maxRecDepth 20000 in
theorem ggX5_failedRun_X1_restore : GoodIn wsX5_failedRun wsX1_restore := goodIn_r _ [7, 8, 9, 10, 11, 12, 13, 14, 15, 16, 17, 18, 19, 20, 21, 22, 23, 24, 25, 26, 27, 28, 29, 30, 31, 32, 33, 34, 35, 36, 37, 38, 39, 40, 41, 42, 43, 44, 45, 46, 47, 48, 49, 50, 51, 52, 56, 57, 58, 59, 60, 61, 62, 63, 64, 65, 66, 67, 68, 69, 70, 71, 72, 73, 74, 75, 76, 77, 78, 79, 80] (by decide +kernel) (by decide +kernel)
set_option maxRecDepth 20000 in
theorem gX5_failedRun_X1_restore : GoodIn wsX5_failedRun (wsV RX5 143 RX1 yX1_restore wsX1_restore) := goodIn_app (goodIn_of _ (by decide +kernel)) ggX5_failedRun_X1_restore
theorem dX5_failedRun_0 : decode cX5_failedRun 0 = .ok (.aload_n 0, 1) := by decide +kernel
theorem dX5_failedRun_1 : decode cX5_failedRun 1 = .ok (.getfield 19, 3) := by decide +kernel
theorem dX5_failedRun_4 : decode cX5_failedRun 4 = .ok (.aload_n 0, 1) := by decide +kernel
theorem dX5_failedRun_5 : decode cX5_failedRun 5 = .ok (.getfield 10, 3) := by decide +kernel
theorem dX5_failedRun_8 : decode cX5_failedRun 8 = .ok (.invokevirtual 143, 3) := by decide +kernel
theorem dX5_failedRun_11 : decode cX5_failedRun 11 = .ok (.sipush (-1000), 3) := by decide +kernel
theorem dX5_failedRun_14 : decode cX5_failedRun 14 = .ok (.iload_n 1, 1) := by decide +kernel
theorem dX5_failedRun_15 : decode cX5_failedRun 15 = .ok (.isub, 1) := by decide +kernel
theorem dX5_failedRun_16 : decode cX5_failedRun 16 = .ok (.ireturn, 1) := by decide +kernel
set_option maxRecDepth 20000 in
theorem ggX5_callCommand_X4_proposeEntry : GoodIn wsX5_callCommand wsX4_proposeEntry := goodIn_r _ [6, 7, 8, 9, 10, 11, 5, 12, 13, 14, 15, 16, 17, 18, 19, 20, 21, 22, 23, 24, 25, 26, 27, 28, 29, 30, 31, 32, 33, 34, 35, 36, 37, 38, 39, 40, 41, 42, 43, 44, 45, 46, 47, 48, 49, 50, 51, 52, 53, 54, 55, 56, 57, 58, 59, 60, 61, 62, 63, 64, 65, 66, 67, 68, 69, 70, 71, 72, 73, 74, 75, 76, 77, 78, 79, 80, 81, 82, 83, 84, 85, 86, 87, 88, 89, 90, 91, 92, 93, 94, 95, 96, 97, 98, 99, 100, 101, 129, 130, 131, 132, 133, 134, 135, 136, 137, 138, 139, 140, 141, 142, 143] (by decide +kernel) (by decide +kernel)
set_option maxRecDepth 20000 in
theorem gX5_callCommand_X4_proposeEntry : GoodIn wsX5_callCommand (wsV RX5 58 RX4 yX4_proposeEntry wsX4_proposeEntry) := goodIn_app (goodIn_of _ (by decide +kernel)) ggX5_callCommand_X4_proposeEntry
set_option maxRecDepth 20000 in
theorem ggX5_callCommand_X4_secondEntry : GoodIn wsX5_callCommand wsX4_secondEntry := goodIn_r _ [105, 7, 9, 10, 11, 5, 12, 13, 106, 107, 108, 109, 8, 14, 15, 16, 17, 18, 19, 20, 21, 22, 23, 24, 25, 26, 27, 28, 29, 30, 31, 32, 33, 34, 35, 36, 37, 38, 39, 48, 49, 50, 51, 52, 53, 54, 55, 56, 57, 58, 59, 60, 61, 62, 63, 64, 65, 66, 67, 68, 69, 70, 71, 72, 73, 74, 75, 76, 77, 78, 79, 80, 81, 82, 83, 84, 85, 86, 87, 88, 89, 90, 91, 92, 93, 46, 94, 95, 96, 97, 98, 99, 100, 101, 129, 130, 131, 132, 133, 134, 135, 136, 137, 138, 139, 140, 141, 142, 143] (by decide +kernel) (by decide +kernel)
set_option maxRecDepth 20000 in
theorem gX5_callCommand_X4_secondEntry : GoodIn wsX5_callCommand (wsV RX5 61 RX4 yX4_secondEntry wsX4_secondEntry) := goodIn_app (goodIn_of _ (by decide +kernel)) ggX5_callCommand_X4_secondEntry
set_option maxRecDepth 20000 in
theorem ggX5_callCommand_X4_learnEntries : GoodIn wsX5_callCommand wsX4_learnEntries := goodIn_r _ [113, 39, 52, 7, 114, 115, 116, 117, 9, 10, 11, 5, 12, 13, 129, 130, 131, 132, 133, 134, 135, 136, 137, 138, 139, 140, 141] (by decide +kernel) (by decide +kernel)
set_option maxRecDepth 20000 in
theorem gX5_callCommand_X4_learnEntries : GoodIn wsX5_callCommand (wsV RX5 64 RX4 yX4_learnEntries wsX4_learnEntries) := goodIn_app (goodIn_of _ (by decide +kernel)) ggX5_callCommand_X4_learnEntries
set_option maxRecDepth 20000 in
theorem ggX5_callCommand_X4_letAttend : GoodIn wsX5_callCommand wsX4_letAttend := goodIn_r _ [121, 39, 9, 10, 11, 5, 12, 13, 122, 123, 124, 125, 129, 130, 131, 132, 133, 134, 135, 136, 137, 138, 139, 140, 141] (by decide +kernel) (by decide +kernel)
set_option maxRecDepth 20000 in
theorem gX5_callCommand_X4_letAttend : GoodIn wsX5_callCommand (wsV RX5 42 RX4 yX4_letAttend wsX4_letAttend) := goodIn_app (goodIn_of _ (by decide +kernel)) ggX5_callCommand_X4_letAttend
theorem dX5_callCommand_0 : decode cX5_callCommand 0 = .ok (.iload_n 1, 1) := by decide +kernel
theorem dX5_callCommand_1 : decode cX5_callCommand 1 = .ok (.lookupswitch 100 #[(98, 90), (103, 80), (108, 71), (112, 51), (115, 61)], 51) := by decide +kernel
theorem dX5_callCommand_52 : decode cX5_callCommand 52 = .ok (.aload_n 0, 1) := by decide +kernel
theorem dX5_callCommand_53 : decode cX5_callCommand 53 = .ok (.getfield 10, 3) := by decide +kernel
theorem dX5_callCommand_56 : decode cX5_callCommand 56 = .ok (.iload_n 2, 1) := by decide +kernel
theorem dX5_callCommand_57 : decode cX5_callCommand 57 = .ok (.iload_n 3, 1) := by decide +kernel
theorem dX5_callCommand_58 : decode cX5_callCommand 58 = .ok (.invokevirtual 58, 3) := by decide +kernel
theorem dX5_callCommand_61 : decode cX5_callCommand 61 = .ok (.ireturn, 1) := by decide +kernel
theorem dX5_callCommand_62 : decode cX5_callCommand 62 = .ok (.aload_n 0, 1) := by decide +kernel
theorem dX5_callCommand_63 : decode cX5_callCommand 63 = .ok (.getfield 10, 3) := by decide +kernel
theorem dX5_callCommand_66 : decode cX5_callCommand 66 = .ok (.iload_n 2, 1) := by decide +kernel
theorem dX5_callCommand_67 : decode cX5_callCommand 67 = .ok (.iload_n 3, 1) := by decide +kernel
theorem dX5_callCommand_68 : decode cX5_callCommand 68 = .ok (.invokevirtual 61, 3) := by decide +kernel
theorem dX5_callCommand_71 : decode cX5_callCommand 71 = .ok (.ireturn, 1) := by decide +kernel
theorem dX5_callCommand_72 : decode cX5_callCommand 72 = .ok (.aload_n 0, 1) := by decide +kernel
theorem dX5_callCommand_73 : decode cX5_callCommand 73 = .ok (.getfield 10, 3) := by decide +kernel
theorem dX5_callCommand_76 : decode cX5_callCommand 76 = .ok (.iload_n 2, 1) := by decide +kernel
theorem dX5_callCommand_77 : decode cX5_callCommand 77 = .ok (.invokevirtual 64, 3) := by decide +kernel
theorem dX5_callCommand_80 : decode cX5_callCommand 80 = .ok (.ireturn, 1) := by decide +kernel
theorem dX5_callCommand_81 : decode cX5_callCommand 81 = .ok (.aload_n 0, 1) := by decide +kernel
theorem dX5_callCommand_82 : decode cX5_callCommand 82 = .ok (.getfield 10, 3) := by decide +kernel
theorem dX5_callCommand_85 : decode cX5_callCommand 85 = .ok (.iload_n 2, 1) := by decide +kernel
theorem dX5_callCommand_86 : decode cX5_callCommand 86 = .ok (.iconst 0, 1) := by decide +kernel
theorem dX5_callCommand_87 : decode cX5_callCommand 87 = .ok (.invokevirtual 42, 3) := by decide +kernel
theorem dX5_callCommand_90 : decode cX5_callCommand 90 = .ok (.ireturn, 1) := by decide +kernel
theorem dX5_callCommand_91 : decode cX5_callCommand 91 = .ok (.aload_n 0, 1) := by decide +kernel
theorem dX5_callCommand_92 : decode cX5_callCommand 92 = .ok (.getfield 10, 3) := by decide +kernel
theorem dX5_callCommand_95 : decode cX5_callCommand 95 = .ok (.iload_n 2, 1) := by decide +kernel
theorem dX5_callCommand_96 : decode cX5_callCommand 96 = .ok (.iconst 1, 1) := by decide +kernel
theorem dX5_callCommand_97 : decode cX5_callCommand 97 = .ok (.invokevirtual 42, 3) := by decide +kernel
theorem dX5_callCommand_100 : decode cX5_callCommand 100 = .ok (.ireturn, 1) := by decide +kernel
theorem dX5_callCommand_101 : decode cX5_callCommand 101 = .ok (.iconst (-1), 1) := by decide +kernel
theorem dX5_callCommand_102 : decode cX5_callCommand 102 = .ok (.ireturn, 1) := by decide +kernel

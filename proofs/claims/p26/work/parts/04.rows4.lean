set_option maxRecDepth 20000 in
theorem ggX4_init_X0_init : GoodIn wsX4_init wsX0_init := goodIn_r _ [21, 22, 2, 3, 4, 23, 46, 47] (by decide +kernel) (by decide +kernel)
set_option maxRecDepth 20000 in
theorem gX4_init_X0_init_n20 : GoodIn wsX4_init (wsX0_init) := ggX4_init_X0_init
set_option maxRecDepth 20000 in
theorem ggX4_init_X2_init : GoodIn wsX4_init wsX2_init := goodIn_r _ [25, 26, 2, 3, 27, 4, 28, 29, 30, 31, 32, 48, 49, 50, 51, 52, 53, 54] (by decide +kernel) (by decide +kernel)
set_option maxRecDepth 20000 in
theorem gX4_init_X2_init_n34 : GoodIn wsX4_init (wsX2_init) := ggX4_init_X2_init
theorem dX4_init_0 : decode cX4_init 0 = .ok (.aload_n 0, 1) := by decide +kernel
theorem dX4_init_1 : decode cX4_init 1 = .ok (.invokespecial 3, 3) := by decide +kernel
theorem dX4_init_4 : decode cX4_init 4 = .ok (.aload_n 0, 1) := by decide +kernel
theorem dX4_init_5 : decode cX4_init 5 = .ok (.bipush 12, 2) := by decide +kernel
theorem dX4_init_7 : decode cX4_init 7 = .ok (.newarray .int, 2) := by decide +kernel
theorem dX4_init_9 : decode cX4_init 9 = .ok (.putfield 9, 3) := by decide +kernel
theorem dX4_init_12 : decode cX4_init 12 = .ok (.aload_n 0, 1) := by decide +kernel
theorem dX4_init_13 : decode cX4_init 13 = .ok (.bipush 12, 2) := by decide +kernel
theorem dX4_init_15 : decode cX4_init 15 = .ok (.newarray .int, 2) := by decide +kernel
theorem dX4_init_17 : decode cX4_init 17 = .ok (.putfield 15, 3) := by decide +kernel
theorem dX4_init_20 : decode cX4_init 20 = .ok (.aload_n 0, 1) := by decide +kernel
theorem dX4_init_21 : decode cX4_init 21 = .ok (.new 18, 3) := by decide +kernel
theorem dX4_init_24 : decode cX4_init 24 = .ok (.dup, 1) := by decide +kernel
theorem dX4_init_25 : decode cX4_init 25 = .ok (.invokespecial 20, 3) := by decide +kernel
theorem dX4_init_28 : decode cX4_init 28 = .ok (.putfield 21, 3) := by decide +kernel
theorem dX4_init_31 : decode cX4_init 31 = .ok (.aload_n 0, 1) := by decide +kernel
theorem dX4_init_32 : decode cX4_init 32 = .ok (.new 18, 3) := by decide +kernel
theorem dX4_init_35 : decode cX4_init 35 = .ok (.dup, 1) := by decide +kernel
theorem dX4_init_36 : decode cX4_init 36 = .ok (.invokespecial 20, 3) := by decide +kernel
theorem dX4_init_39 : decode cX4_init 39 = .ok (.putfield 25, 3) := by decide +kernel
theorem dX4_init_42 : decode cX4_init 42 = .ok (.aload_n 0, 1) := by decide +kernel
theorem dX4_init_43 : decode cX4_init 43 = .ok (.bipush (-9), 2) := by decide +kernel
theorem dX4_init_45 : decode cX4_init 45 = .ok (.putfield 28, 3) := by decide +kernel
theorem dX4_init_48 : decode cX4_init 48 = .ok (.aload_n 0, 1) := by decide +kernel
theorem dX4_init_49 : decode cX4_init 49 = .ok (.new 32, 3) := by decide +kernel
theorem dX4_init_52 : decode cX4_init 52 = .ok (.dup, 1) := by decide +kernel
theorem dX4_init_53 : decode cX4_init 53 = .ok (.invokespecial 34, 3) := by decide +kernel
theorem dX4_init_56 : decode cX4_init 56 = .ok (.putfield 35, 3) := by decide +kernel
theorem dX4_init_59 : decode cX4_init 59 = .ok (.aload_n 0, 1) := by decide +kernel
theorem dX4_init_60 : decode cX4_init 60 = .ok (.bipush 60, 2) := by decide +kernel
theorem dX4_init_62 : decode cX4_init 62 = .ok (.newarray .int, 2) := by decide +kernel
theorem dX4_init_64 : decode cX4_init 64 = .ok (.putfield 39, 3) := by decide +kernel
theorem dX4_init_67 : decode cX4_init 67 = .ok (.aload_n 0, 1) := by decide +kernel
theorem dX4_init_68 : decode cX4_init 68 = .ok (.bipush 60, 2) := by decide +kernel
theorem dX4_init_70 : decode cX4_init 70 = .ok (.newarray .int, 2) := by decide +kernel
theorem dX4_init_72 : decode cX4_init 72 = .ok (.putfield 42, 3) := by decide +kernel
theorem dX4_init_75 : decode cX4_init 75 = .ok (.aload_n 0, 1) := by decide +kernel
theorem dX4_init_76 : decode cX4_init 76 = .ok (.bipush 60, 2) := by decide +kernel
theorem dX4_init_78 : decode cX4_init 78 = .ok (.newarray .int, 2) := by decide +kernel
theorem dX4_init_80 : decode cX4_init 80 = .ok (.putfield 45, 3) := by decide +kernel
theorem dX4_init_83 : decode cX4_init 83 = .ok (.return_, 1) := by decide +kernel
set_option maxRecDepth 20000 in
theorem ggX4_copyFrom_X0_copyFrom : GoodIn wsX4_copyFrom wsX0_copyFrom := goodIn_r _ [22, 23, 24, 25, 4, 5, 6, 52, 53] (by decide +kernel) (by decide +kernel)
set_option maxRecDepth 20000 in
theorem gX4_copyFrom_X0_copyFrom : GoodIn wsX4_copyFrom (wsV RX4 57 RX0 yX0_copyFrom wsX0_copyFrom) := goodIn_app (goodIn_of _ (by decide +kernel)) ggX4_copyFrom_X0_copyFrom
set_option maxRecDepth 20000 in
theorem ggX4_copyFrom_X2_copyFrom : GoodIn wsX4_copyFrom wsX2_copyFrom := goodIn_r _ [30, 31, 32, 33, 34, 4, 5, 6, 35, 36, 37, 38, 54, 55, 56, 57, 58, 59, 60] (by decide +kernel) (by decide +kernel)
set_option maxRecDepth 20000 in
theorem gX4_copyFrom_X2_copyFrom : GoodIn wsX4_copyFrom (wsV RX4 64 RX2 yX2_copyFrom wsX2_copyFrom) := goodIn_app (goodIn_of _ (by decide +kernel)) ggX4_copyFrom_X2_copyFrom
theorem dX4_copyFrom_0 : decode cX4_copyFrom 0 = .ok (.aload_n 0, 1) := by decide +kernel
theorem dX4_copyFrom_1 : decode cX4_copyFrom 1 = .ok (.aload_n 1, 1) := by decide +kernel
theorem dX4_copyFrom_2 : decode cX4_copyFrom 2 = .ok (.getfield 48, 3) := by decide +kernel
theorem dX4_copyFrom_5 : decode cX4_copyFrom 5 = .ok (.putfield 48, 3) := by decide +kernel
theorem dX4_copyFrom_8 : decode cX4_copyFrom 8 = .ok (.aload_n 1, 1) := by decide +kernel
theorem dX4_copyFrom_9 : decode cX4_copyFrom 9 = .ok (.getfield 9, 3) := by decide +kernel
theorem dX4_copyFrom_12 : decode cX4_copyFrom 12 = .ok (.iconst 0, 1) := by decide +kernel
theorem dX4_copyFrom_13 : decode cX4_copyFrom 13 = .ok (.aload_n 0, 1) := by decide +kernel
theorem dX4_copyFrom_14 : decode cX4_copyFrom 14 = .ok (.getfield 9, 3) := by decide +kernel
theorem dX4_copyFrom_17 : decode cX4_copyFrom 17 = .ok (.iconst 0, 1) := by decide +kernel
theorem dX4_copyFrom_18 : decode cX4_copyFrom 18 = .ok (.bipush 12, 2) := by decide +kernel
theorem dX4_copyFrom_20 : decode cX4_copyFrom 20 = .ok (.invokestatic 51, 3) := by decide +kernel
theorem dX4_copyFrom_23 : decode cX4_copyFrom 23 = .ok (.aload_n 1, 1) := by decide +kernel
theorem dX4_copyFrom_24 : decode cX4_copyFrom 24 = .ok (.getfield 15, 3) := by decide +kernel
theorem dX4_copyFrom_27 : decode cX4_copyFrom 27 = .ok (.iconst 0, 1) := by decide +kernel
theorem dX4_copyFrom_28 : decode cX4_copyFrom 28 = .ok (.aload_n 0, 1) := by decide +kernel
theorem dX4_copyFrom_29 : decode cX4_copyFrom 29 = .ok (.getfield 15, 3) := by decide +kernel
theorem dX4_copyFrom_32 : decode cX4_copyFrom 32 = .ok (.iconst 0, 1) := by decide +kernel
theorem dX4_copyFrom_33 : decode cX4_copyFrom 33 = .ok (.bipush 12, 2) := by decide +kernel
theorem dX4_copyFrom_35 : decode cX4_copyFrom 35 = .ok (.invokestatic 51, 3) := by decide +kernel
theorem dX4_copyFrom_38 : decode cX4_copyFrom 38 = .ok (.aload_n 0, 1) := by decide +kernel
theorem dX4_copyFrom_39 : decode cX4_copyFrom 39 = .ok (.getfield 21, 3) := by decide +kernel
theorem dX4_copyFrom_42 : decode cX4_copyFrom 42 = .ok (.aload_n 1, 1) := by decide +kernel
theorem dX4_copyFrom_43 : decode cX4_copyFrom 43 = .ok (.getfield 21, 3) := by decide +kernel
theorem dX4_copyFrom_46 : decode cX4_copyFrom 46 = .ok (.invokevirtual 57, 3) := by decide +kernel
theorem dX4_copyFrom_49 : decode cX4_copyFrom 49 = .ok (.aload_n 0, 1) := by decide +kernel
theorem dX4_copyFrom_50 : decode cX4_copyFrom 50 = .ok (.getfield 25, 3) := by decide +kernel
theorem dX4_copyFrom_53 : decode cX4_copyFrom 53 = .ok (.aload_n 1, 1) := by decide +kernel
theorem dX4_copyFrom_54 : decode cX4_copyFrom 54 = .ok (.getfield 25, 3) := by decide +kernel
theorem dX4_copyFrom_57 : decode cX4_copyFrom 57 = .ok (.invokevirtual 57, 3) := by decide +kernel
theorem dX4_copyFrom_60 : decode cX4_copyFrom 60 = .ok (.aload_n 0, 1) := by decide +kernel
theorem dX4_copyFrom_61 : decode cX4_copyFrom 61 = .ok (.aload_n 1, 1) := by decide +kernel
theorem dX4_copyFrom_62 : decode cX4_copyFrom 62 = .ok (.getfield 61, 3) := by decide +kernel
theorem dX4_copyFrom_65 : decode cX4_copyFrom 65 = .ok (.putfield 61, 3) := by decide +kernel
theorem dX4_copyFrom_68 : decode cX4_copyFrom 68 = .ok (.aload_n 0, 1) := by decide +kernel
theorem dX4_copyFrom_69 : decode cX4_copyFrom 69 = .ok (.aload_n 1, 1) := by decide +kernel
theorem dX4_copyFrom_70 : decode cX4_copyFrom 70 = .ok (.getfield 28, 3) := by decide +kernel
theorem dX4_copyFrom_73 : decode cX4_copyFrom 73 = .ok (.putfield 28, 3) := by decide +kernel
theorem dX4_copyFrom_76 : decode cX4_copyFrom 76 = .ok (.aload_n 0, 1) := by decide +kernel
theorem dX4_copyFrom_77 : decode cX4_copyFrom 77 = .ok (.getfield 35, 3) := by decide +kernel
theorem dX4_copyFrom_80 : decode cX4_copyFrom 80 = .ok (.aload_n 1, 1) := by decide +kernel
theorem dX4_copyFrom_81 : decode cX4_copyFrom 81 = .ok (.getfield 35, 3) := by decide +kernel
theorem dX4_copyFrom_84 : decode cX4_copyFrom 84 = .ok (.invokevirtual 64, 3) := by decide +kernel
theorem dX4_copyFrom_87 : decode cX4_copyFrom 87 = .ok (.aload_n 0, 1) := by decide +kernel
theorem dX4_copyFrom_88 : decode cX4_copyFrom 88 = .ok (.aload_n 1, 1) := by decide +kernel
theorem dX4_copyFrom_89 : decode cX4_copyFrom 89 = .ok (.getfield 67, 3) := by decide +kernel
theorem dX4_copyFrom_92 : decode cX4_copyFrom 92 = .ok (.putfield 67, 3) := by decide +kernel
theorem dX4_copyFrom_95 : decode cX4_copyFrom 95 = .ok (.aload_n 0, 1) := by decide +kernel
theorem dX4_copyFrom_96 : decode cX4_copyFrom 96 = .ok (.aload_n 1, 1) := by decide +kernel
theorem dX4_copyFrom_97 : decode cX4_copyFrom 97 = .ok (.getfield 70, 3) := by decide +kernel
theorem dX4_copyFrom_100 : decode cX4_copyFrom 100 = .ok (.putfield 70, 3) := by decide +kernel
theorem dX4_copyFrom_103 : decode cX4_copyFrom 103 = .ok (.aload_n 1, 1) := by decide +kernel
theorem dX4_copyFrom_104 : decode cX4_copyFrom 104 = .ok (.getfield 39, 3) := by decide +kernel
theorem dX4_copyFrom_107 : decode cX4_copyFrom 107 = .ok (.iconst 0, 1) := by decide +kernel
theorem dX4_copyFrom_108 : decode cX4_copyFrom 108 = .ok (.aload_n 0, 1) := by decide +kernel
theorem dX4_copyFrom_109 : decode cX4_copyFrom 109 = .ok (.getfield 39, 3) := by decide +kernel
theorem dX4_copyFrom_112 : decode cX4_copyFrom 112 = .ok (.iconst 0, 1) := by decide +kernel
theorem dX4_copyFrom_113 : decode cX4_copyFrom 113 = .ok (.bipush 60, 2) := by decide +kernel
theorem dX4_copyFrom_115 : decode cX4_copyFrom 115 = .ok (.invokestatic 51, 3) := by decide +kernel
theorem dX4_copyFrom_118 : decode cX4_copyFrom 118 = .ok (.aload_n 1, 1) := by decide +kernel
theorem dX4_copyFrom_119 : decode cX4_copyFrom 119 = .ok (.getfield 42, 3) := by decide +kernel
theorem dX4_copyFrom_122 : decode cX4_copyFrom 122 = .ok (.iconst 0, 1) := by decide +kernel
theorem dX4_copyFrom_123 : decode cX4_copyFrom 123 = .ok (.aload_n 0, 1) := by decide +kernel
theorem dX4_copyFrom_124 : decode cX4_copyFrom 124 = .ok (.getfield 42, 3) := by decide +kernel
theorem dX4_copyFrom_127 : decode cX4_copyFrom 127 = .ok (.iconst 0, 1) := by decide +kernel
theorem dX4_copyFrom_128 : decode cX4_copyFrom 128 = .ok (.bipush 60, 2) := by decide +kernel
theorem dX4_copyFrom_130 : decode cX4_copyFrom 130 = .ok (.invokestatic 51, 3) := by decide +kernel
theorem dX4_copyFrom_133 : decode cX4_copyFrom 133 = .ok (.aload_n 1, 1) := by decide +kernel
theorem dX4_copyFrom_134 : decode cX4_copyFrom 134 = .ok (.getfield 45, 3) := by decide +kernel
theorem dX4_copyFrom_137 : decode cX4_copyFrom 137 = .ok (.iconst 0, 1) := by decide +kernel
theorem dX4_copyFrom_138 : decode cX4_copyFrom 138 = .ok (.aload_n 0, 1) := by decide +kernel
theorem dX4_copyFrom_139 : decode cX4_copyFrom 139 = .ok (.getfield 45, 3) := by decide +kernel
theorem dX4_copyFrom_142 : decode cX4_copyFrom 142 = .ok (.iconst 0, 1) := by decide +kernel
theorem dX4_copyFrom_143 : decode cX4_copyFrom 143 = .ok (.bipush 60, 2) := by decide +kernel
theorem dX4_copyFrom_145 : decode cX4_copyFrom 145 = .ok (.invokestatic 51, 3) := by decide +kernel
theorem dX4_copyFrom_148 : decode cX4_copyFrom 148 = .ok (.return_, 1) := by decide +kernel
theorem dX4_letCome_0 : decode cX4_letCome 0 = .ok (.aload_n 0, 1) := by decide +kernel
theorem dX4_letCome_1 : decode cX4_letCome 1 = .ok (.getfield 48, 3) := by decide +kernel
theorem dX4_letCome_4 : decode cX4_letCome 4 = .ok (.bipush 12, 2) := by decide +kernel
theorem dX4_letCome_6 : decode cX4_letCome 6 = .ok (.if_icmp .lt 6, 3) := by decide +kernel
theorem dX4_letCome_9 : decode cX4_letCome 9 = .ok (.bipush (-3), 2) := by decide +kernel
theorem dX4_letCome_11 : decode cX4_letCome 11 = .ok (.ireturn, 1) := by decide +kernel
theorem dX4_letCome_12 : decode cX4_letCome 12 = .ok (.aload_n 0, 1) := by decide +kernel
theorem dX4_letCome_13 : decode cX4_letCome 13 = .ok (.getfield 9, 3) := by decide +kernel
theorem dX4_letCome_16 : decode cX4_letCome 16 = .ok (.aload_n 0, 1) := by decide +kernel
theorem dX4_letCome_17 : decode cX4_letCome 17 = .ok (.getfield 48, 3) := by decide +kernel
theorem dX4_letCome_20 : decode cX4_letCome 20 = .ok (.iconst 1, 1) := by decide +kernel
theorem dX4_letCome_21 : decode cX4_letCome 21 = .ok (.iastore, 1) := by decide +kernel
theorem dX4_letCome_22 : decode cX4_letCome 22 = .ok (.aload_n 0, 1) := by decide +kernel
theorem dX4_letCome_23 : decode cX4_letCome 23 = .ok (.getfield 15, 3) := by decide +kernel
theorem dX4_letCome_26 : decode cX4_letCome 26 = .ok (.aload_n 0, 1) := by decide +kernel
theorem dX4_letCome_27 : decode cX4_letCome 27 = .ok (.getfield 48, 3) := by decide +kernel
theorem dX4_letCome_30 : decode cX4_letCome 30 = .ok (.iconst 0, 1) := by decide +kernel
theorem dX4_letCome_31 : decode cX4_letCome 31 = .ok (.iastore, 1) := by decide +kernel
theorem dX4_letCome_32 : decode cX4_letCome 32 = .ok (.aload_n 0, 1) := by decide +kernel
theorem dX4_letCome_33 : decode cX4_letCome 33 = .ok (.dup, 1) := by decide +kernel
theorem dX4_letCome_34 : decode cX4_letCome 34 = .ok (.getfield 48, 3) := by decide +kernel
theorem dX4_letCome_37 : decode cX4_letCome 37 = .ok (.iconst 1, 1) := by decide +kernel
theorem dX4_letCome_38 : decode cX4_letCome 38 = .ok (.iadd, 1) := by decide +kernel
theorem dX4_letCome_39 : decode cX4_letCome 39 = .ok (.putfield 48, 3) := by decide +kernel
theorem dX4_letCome_42 : decode cX4_letCome 42 = .ok (.aload_n 0, 1) := by decide +kernel
theorem dX4_letCome_43 : decode cX4_letCome 43 = .ok (.getfield 48, 3) := by decide +kernel
theorem dX4_letCome_46 : decode cX4_letCome 46 = .ok (.iconst 1, 1) := by decide +kernel
theorem dX4_letCome_47 : decode cX4_letCome 47 = .ok (.isub, 1) := by decide +kernel
theorem dX4_letCome_48 : decode cX4_letCome 48 = .ok (.ireturn, 1) := by decide +kernel
set_option maxRecDepth 20000 in
theorem ggX4_letAttend_X4_isVillager : GoodIn wsX4_letAttend wsX4_isVillager := goodIn_r _ [6, 7, 12, 13, 14, 15, 16, 17, 18, 19, 20, 21, 22, 23, 24] (by decide +kernel) (by decide +kernel)
set_option maxRecDepth 20000 in
theorem gX4_letAttend_X4_isVillager : GoodIn wsX4_letAttend (wsV RX4 73 RX4 yX4_isVillager wsX4_isVillager) := goodIn_app (goodIn_of _ (by decide +kernel)) ggX4_letAttend_X4_isVillager
set_option maxRecDepth 20000 in
theorem ggX4_letAttend_X4_presentVillagers : GoodIn wsX4_letAttend wsX4_presentVillagers := goodIn_r _ [11, 7, 1, 12, 13, 14, 15, 16, 17, 18, 19, 20, 21, 22, 23, 24] (by decide +kernel) (by decide +kernel)
set_option maxRecDepth 20000 in
theorem gX4_letAttend_X4_presentVillagers : GoodIn wsX4_letAttend (wsV RX4 77 RX4 yX4_presentVillagers wsX4_presentVillagers) := goodIn_app (goodIn_of _ (by decide +kernel)) ggX4_letAttend_X4_presentVillagers
theorem dX4_letAttend_0 : decode cX4_letAttend 0 = .ok (.aload_n 0, 1) := by decide +kernel
theorem dX4_letAttend_1 : decode cX4_letAttend 1 = .ok (.iload_n 1, 1) := by decide +kernel
theorem dX4_letAttend_2 : decode cX4_letAttend 2 = .ok (.invokevirtual 73, 3) := by decide +kernel
theorem dX4_letAttend_5 : decode cX4_letAttend 5 = .ok (.ifCond .eq 12, 3) := by decide +kernel
theorem dX4_letAttend_8 : decode cX4_letAttend 8 = .ok (.iload_n 2, 1) := by decide +kernel
theorem dX4_letAttend_9 : decode cX4_letAttend 9 = .ok (.ifCond .lt 8, 3) := by decide +kernel
theorem dX4_letAttend_12 : decode cX4_letAttend 12 = .ok (.iload_n 2, 1) := by decide +kernel
theorem dX4_letAttend_13 : decode cX4_letAttend 13 = .ok (.iconst 1, 1) := by decide +kernel
theorem dX4_letAttend_14 : decode cX4_letAttend 14 = .ok (.if_icmp .le 5, 3) := by decide +kernel
theorem dX4_letAttend_17 : decode cX4_letAttend 17 = .ok (.iconst (-1), 1) := by decide +kernel
theorem dX4_letAttend_18 : decode cX4_letAttend 18 = .ok (.ireturn, 1) := by decide +kernel
theorem dX4_letAttend_19 : decode cX4_letAttend 19 = .ok (.aload_n 0, 1) := by decide +kernel
theorem dX4_letAttend_20 : decode cX4_letAttend 20 = .ok (.getfield 9, 3) := by decide +kernel
theorem dX4_letAttend_23 : decode cX4_letAttend 23 = .ok (.iload_n 1, 1) := by decide +kernel
theorem dX4_letAttend_24 : decode cX4_letAttend 24 = .ok (.iaload, 1) := by decide +kernel
theorem dX4_letAttend_25 : decode cX4_letAttend 25 = .ok (.iload_n 2, 1) := by decide +kernel
theorem dX4_letAttend_26 : decode cX4_letAttend 26 = .ok (.if_icmp .ne 6, 3) := by decide +kernel
theorem dX4_letAttend_29 : decode cX4_letAttend 29 = .ok (.bipush (-2), 2) := by decide +kernel
theorem dX4_letAttend_31 : decode cX4_letAttend 31 = .ok (.ireturn, 1) := by decide +kernel
theorem dX4_letAttend_32 : decode cX4_letAttend 32 = .ok (.aload_n 0, 1) := by decide +kernel
theorem dX4_letAttend_33 : decode cX4_letAttend 33 = .ok (.getfield 9, 3) := by decide +kernel
theorem dX4_letAttend_36 : decode cX4_letAttend 36 = .ok (.iload_n 1, 1) := by decide +kernel
theorem dX4_letAttend_37 : decode cX4_letAttend 37 = .ok (.iload_n 2, 1) := by decide +kernel
theorem dX4_letAttend_38 : decode cX4_letAttend 38 = .ok (.iastore, 1) := by decide +kernel
theorem dX4_letAttend_39 : decode cX4_letAttend 39 = .ok (.aload_n 0, 1) := by decide +kernel
theorem dX4_letAttend_40 : decode cX4_letAttend 40 = .ok (.invokevirtual 77, 3) := by decide +kernel
theorem dX4_letAttend_43 : decode cX4_letAttend 43 = .ok (.ireturn, 1) := by decide +kernel
set_option maxRecDepth 20000 in
theorem ggX4_setFirstCouncil_X0_isEmpty : GoodIn wsX4_setFirstCouncil wsX0_isEmpty := goodIn_r _ [8, 9, 40, 41] (by decide +kernel) (by decide +kernel)
set_option maxRecDepth 20000 in
theorem gX4_setFirstCouncil_X0_isEmpty : GoodIn wsX4_setFirstCouncil (wsV RX4 81 RX0 yX0_isEmpty wsX0_isEmpty) := goodIn_app (goodIn_of _ (by decide +kernel)) ggX4_setFirstCouncil_X0_isEmpty
set_option maxRecDepth 20000 in
theorem ggX4_setFirstCouncil_X0_seatFirst : GoodIn wsX4_setFirstCouncil wsX0_seatFirst := goodIn_r _ [13, 14, 15, 16, 17, 9, 18, 40, 41] (by decide +kernel) (by decide +kernel)
set_option maxRecDepth 20000 in
theorem gX4_setFirstCouncil_X0_seatFirst : GoodIn wsX4_setFirstCouncil (wsV RX4 85 RX0 yX0_seatFirst wsX0_seatFirst) := goodIn_app (goodIn_of _ (by decide +kernel)) ggX4_setFirstCouncil_X0_seatFirst
set_option maxRecDepth 20000 in
theorem ggX4_setFirstCouncil_X0_copyFrom : GoodIn wsX4_setFirstCouncil wsX0_copyFrom := goodIn_r _ [22, 9, 18, 23, 24, 25, 26, 40, 41] (by decide +kernel) (by decide +kernel)
set_option maxRecDepth 20000 in
theorem gX4_setFirstCouncil_X0_copyFrom : GoodIn wsX4_setFirstCouncil (wsV RX4 57 RX0 yX0_copyFrom wsX0_copyFrom) := goodIn_app (goodIn_of _ (by decide +kernel)) ggX4_setFirstCouncil_X0_copyFrom
theorem dX4_setFirstCouncil_0 : decode cX4_setFirstCouncil 0 = .ok (.iload_n 1, 1) := by decide +kernel
theorem dX4_setFirstCouncil_1 : decode cX4_setFirstCouncil 1 = .ok (.iconst 1, 1) := by decide +kernel
theorem dX4_setFirstCouncil_2 : decode cX4_setFirstCouncil 2 = .ok (.if_icmp .lt 8, 3) := by decide +kernel
theorem dX4_setFirstCouncil_5 : decode cX4_setFirstCouncil 5 = .ok (.iload_n 1, 1) := by decide +kernel
theorem dX4_setFirstCouncil_6 : decode cX4_setFirstCouncil 6 = .ok (.iconst 5, 1) := by decide +kernel
theorem dX4_setFirstCouncil_7 : decode cX4_setFirstCouncil 7 = .ok (.if_icmp .le 5, 3) := by decide +kernel
theorem dX4_setFirstCouncil_10 : decode cX4_setFirstCouncil 10 = .ok (.iconst (-1), 1) := by decide +kernel
theorem dX4_setFirstCouncil_11 : decode cX4_setFirstCouncil 11 = .ok (.ireturn, 1) := by decide +kernel
theorem dX4_setFirstCouncil_12 : decode cX4_setFirstCouncil 12 = .ok (.aload_n 0, 1) := by decide +kernel
theorem dX4_setFirstCouncil_13 : decode cX4_setFirstCouncil 13 = .ok (.getfield 21, 3) := by decide +kernel
theorem dX4_setFirstCouncil_16 : decode cX4_setFirstCouncil 16 = .ok (.invokevirtual 81, 3) := by decide +kernel
theorem dX4_setFirstCouncil_19 : decode cX4_setFirstCouncil 19 = .ok (.ifCond .eq 11, 3) := by decide +kernel
theorem dX4_setFirstCouncil_22 : decode cX4_setFirstCouncil 22 = .ok (.iload_n 1, 1) := by decide +kernel
theorem dX4_setFirstCouncil_23 : decode cX4_setFirstCouncil 23 = .ok (.aload_n 0, 1) := by decide +kernel
theorem dX4_setFirstCouncil_24 : decode cX4_setFirstCouncil 24 = .ok (.getfield 48, 3) := by decide +kernel
theorem dX4_setFirstCouncil_27 : decode cX4_setFirstCouncil 27 = .ok (.if_icmp .le 6, 3) := by decide +kernel
theorem dX4_setFirstCouncil_30 : decode cX4_setFirstCouncil 30 = .ok (.bipush (-2), 2) := by decide +kernel
theorem dX4_setFirstCouncil_32 : decode cX4_setFirstCouncil 32 = .ok (.ireturn, 1) := by decide +kernel
theorem dX4_setFirstCouncil_33 : decode cX4_setFirstCouncil 33 = .ok (.aload_n 0, 1) := by decide +kernel
theorem dX4_setFirstCouncil_34 : decode cX4_setFirstCouncil 34 = .ok (.getfield 21, 3) := by decide +kernel
theorem dX4_setFirstCouncil_37 : decode cX4_setFirstCouncil 37 = .ok (.iload_n 1, 1) := by decide +kernel
theorem dX4_setFirstCouncil_38 : decode cX4_setFirstCouncil 38 = .ok (.invokevirtual 85, 3) := by decide +kernel
theorem dX4_setFirstCouncil_41 : decode cX4_setFirstCouncil 41 = .ok (.aload_n 0, 1) := by decide +kernel
theorem dX4_setFirstCouncil_42 : decode cX4_setFirstCouncil 42 = .ok (.getfield 25, 3) := by decide +kernel
theorem dX4_setFirstCouncil_45 : decode cX4_setFirstCouncil 45 = .ok (.aload_n 0, 1) := by decide +kernel
theorem dX4_setFirstCouncil_46 : decode cX4_setFirstCouncil 46 = .ok (.getfield 21, 3) := by decide +kernel
theorem dX4_setFirstCouncil_49 : decode cX4_setFirstCouncil 49 = .ok (.invokevirtual 57, 3) := by decide +kernel
theorem dX4_setFirstCouncil_52 : decode cX4_setFirstCouncil 52 = .ok (.iload_n 1, 1) := by decide +kernel
theorem dX4_setFirstCouncil_53 : decode cX4_setFirstCouncil 53 = .ok (.ireturn, 1) := by decide +kernel
set_option maxRecDepth 20000 in
theorem ggX4_setLotState_X2_setState : GoodIn wsX4_setLotState wsX2_setState := goodIn_r _ [7, 8, 22, 23, 24, 25, 26, 27, 28] (by decide +kernel) (by decide +kernel)
set_option maxRecDepth 20000 in
theorem gX4_setLotState_X2_setState : GoodIn wsX4_setLotState (wsV RX4 90 RX2 yX2_setState wsX2_setState) := goodIn_app (goodIn_of _ (by decide +kernel)) ggX4_setLotState_X2_setState
theorem dX4_setLotState_0 : decode cX4_setLotState 0 = .ok (.iload_n 1, 1) := by decide +kernel
theorem dX4_setLotState_1 : decode cX4_setLotState 1 = .ok (.ifCond .lt 9, 3) := by decide +kernel
theorem dX4_setLotState_4 : decode cX4_setLotState 4 = .ok (.iload_n 1, 1) := by decide +kernel
theorem dX4_setLotState_5 : decode cX4_setLotState 5 = .ok (.ldc 89, 2) := by decide +kernel
theorem dX4_setLotState_7 : decode cX4_setLotState 7 = .ok (.if_icmp .lt 5, 3) := by decide +kernel
theorem dX4_setLotState_10 : decode cX4_setLotState 10 = .ok (.iconst (-1), 1) := by decide +kernel
theorem dX4_setLotState_11 : decode cX4_setLotState 11 = .ok (.ireturn, 1) := by decide +kernel
theorem dX4_setLotState_12 : decode cX4_setLotState 12 = .ok (.aload_n 0, 1) := by decide +kernel
theorem dX4_setLotState_13 : decode cX4_setLotState 13 = .ok (.getfield 35, 3) := by decide +kernel
theorem dX4_setLotState_16 : decode cX4_setLotState 16 = .ok (.iload_n 1, 1) := by decide +kernel
theorem dX4_setLotState_17 : decode cX4_setLotState 17 = .ok (.invokevirtual 90, 3) := by decide +kernel
theorem dX4_setLotState_20 : decode cX4_setLotState 20 = .ok (.ireturn, 1) := by decide +kernel
set_option maxRecDepth 20000 in
theorem ggX4_beginChange_X4_isVillager : GoodIn wsX4_beginChange wsX4_isVillager := goodIn_r _ [11, 12, 136, 137, 138, 139, 140, 141, 142, 143, 144, 145, 146, 147, 148] (by decide +kernel) (by decide +kernel)
set_option maxRecDepth 20000 in
theorem gX4_beginChange_X4_isVillager : GoodIn wsX4_beginChange (wsV RX4 73 RX4 yX4_isVillager wsX4_isVillager) := goodIn_app (goodIn_of _ (by decide +kernel)) ggX4_beginChange_X4_isVillager
set_option maxRecDepth 20000 in
theorem ggX4_beginChange_X0_hasSeat : GoodIn wsX4_beginChange wsX0_hasSeat := goodIn_r _ [17, 18, 149, 150] (by decide +kernel) (by decide +kernel)
set_option maxRecDepth 20000 in
theorem gX4_beginChange_X0_hasSeat : GoodIn wsX4_beginChange (wsV RX4 94 RX0 yX0_hasSeat wsX0_hasSeat) := goodIn_app (goodIn_of _ (by decide +kernel)) ggX4_beginChange_X0_hasSeat
set_option maxRecDepth 20000 in
theorem ggX4_beginChange_X2_state : GoodIn wsX4_beginChange wsX2_state := goodIn_r _ [23, 24, 151, 152, 153, 154, 155, 156, 157] (by decide +kernel) (by decide +kernel)
set_option maxRecDepth 20000 in
theorem gX4_beginChange_X2_state : GoodIn wsX4_beginChange (wsV RX4 97 RX2 yX2_state wsX2_state) := goodIn_app (goodIn_of _ (by decide +kernel)) ggX4_beginChange_X2_state
set_option maxRecDepth 20000 in
theorem ggX4_beginChange_X4_drawnWith : GoodIn wsX4_beginChange wsX4_drawnWith := goodIn_r _ [28, 12, 1, 29, 30, 31, 10, 32, 33, 34, 35, 36, 37, 38, 39, 16, 40, 41, 42, 43, 44, 18, 45, 46, 47, 22, 48, 49, 136, 137, 138, 139, 140, 141, 142, 143, 144, 145, 146, 147, 148, 149, 150] (by decide +kernel) (by decide +kernel)
set_option maxRecDepth 20000 in
theorem gX4_beginChange_X4_drawnWith : GoodIn wsX4_beginChange (wsV RX4 100 RX4 yX4_drawnWith wsX4_drawnWith) := goodIn_app (goodIn_of _ (by decide +kernel)) ggX4_beginChange_X4_drawnWith
set_option maxRecDepth 20000 in
theorem ggX4_beginChange_X4_isChanging : GoodIn wsX4_beginChange wsX4_isChanging := goodIn_r _ [53, 6, 136, 137, 138, 139, 140, 141, 142, 143, 144, 145, 146, 147, 148] (by decide +kernel) (by decide +kernel)
set_option maxRecDepth 20000 in
theorem gX4_beginChange_X4_isChanging : GoodIn wsX4_beginChange (wsV RX4 103 RX4 yX4_isChanging wsX4_isChanging) := goodIn_app (goodIn_of _ (by decide +kernel)) ggX4_beginChange_X4_isChanging
set_option maxRecDepth 20000 in
theorem ggX4_beginChange_X4_mayAct : GoodIn wsX4_beginChange wsX4_mayAct := goodIn_r _ [57, 58, 59, 60, 10, 61, 1, 5, 37, 38, 39, 16, 40, 41, 42, 43, 44, 18, 45, 62, 63, 64, 65, 66, 7, 8, 9, 11, 12, 136, 137, 138, 139, 140, 141, 142, 143, 144, 145, 146, 147, 148, 149, 150] (by decide +kernel) (by decide +kernel)
set_option maxRecDepth 20000 in
theorem gX4_beginChange_X4_mayAct : GoodIn wsX4_beginChange (wsV RX4 106 RX4 yX4_mayAct wsX4_mayAct) := goodIn_app (goodIn_of _ (by decide +kernel)) ggX4_beginChange_X4_mayAct
set_option maxRecDepth 20000 in
theorem ggX4_beginChange_X4_candidates : GoodIn wsX4_beginChange wsX4_candidates := goodIn_r _ [32, 12, 33, 34, 35, 10, 36, 1, 37, 38, 39, 16, 40, 41, 42, 43, 44, 18, 45, 136, 137, 138, 139, 140, 141, 142, 143, 144, 145, 146, 147, 148, 149, 150] (by decide +kernel) (by decide +kernel)
set_option maxRecDepth 20000 in
theorem gX4_beginChange_X4_candidates : GoodIn wsX4_beginChange (wsV RX4 109 RX4 yX4_candidates wsX4_candidates) := goodIn_app (goodIn_of _ (by decide +kernel)) ggX4_beginChange_X4_candidates
set_option maxRecDepth 20000 in
theorem ggX4_beginChange_X2_write : GoodIn wsX4_beginChange wsX2_write := goodIn_r _ [70, 71, 72, 24, 73, 74, 75, 76, 77, 47, 22, 48, 49, 151, 152, 153, 154, 155, 156, 157] (by decide +kernel) (by decide +kernel)
set_option maxRecDepth 20000 in
theorem gX4_beginChange_X2_write : GoodIn wsX4_beginChange (wsV RX4 112 RX2 yX2_write wsX2_write) := goodIn_app (goodIn_of _ (by decide +kernel)) ggX4_beginChange_X2_write
set_option maxRecDepth 20000 in
theorem ggX4_beginChange_X0_place : GoodIn wsX4_beginChange wsX0_place := goodIn_r _ [81, 45, 82, 14, 15, 16, 17, 18, 149, 150] (by decide +kernel) (by decide +kernel)
set_option maxRecDepth 20000 in
theorem gX4_beginChange_X0_place : GoodIn wsX4_beginChange (wsV RX4 116 RX0 yX0_place wsX0_place) := goodIn_app (goodIn_of _ (by decide +kernel)) ggX4_beginChange_X0_place
set_option maxRecDepth 20000 in
theorem ggX4_beginChange_X4_addEntry : GoodIn wsX4_beginChange wsX4_addEntry := goodIn_r _ [86, 87, 4, 88, 89, 90, 3, 136, 137, 138, 139, 140, 141, 142, 143, 144, 145, 146, 147, 148] (by decide +kernel) (by decide +kernel)
set_option maxRecDepth 20000 in
theorem gX4_beginChange_X4_addEntry : GoodIn wsX4_beginChange (wsV RX4 120 RX4 yX4_addEntry wsX4_addEntry) := goodIn_app (goodIn_of _ (by decide +kernel)) ggX4_beginChange_X4_addEntry
set_option maxRecDepth 20000 in
theorem ggX4_beginChange_X4_agree : GoodIn wsX4_beginChange wsX4_agree := goodIn_r _ [94, 95, 4, 6, 96, 97, 98, 10, 99, 5, 1, 100, 101, 102, 103, 104, 105, 106, 16, 107, 18, 108, 109, 110, 111, 45, 82, 14, 15, 17, 112, 113, 114, 115, 3, 7, 8, 9, 11, 12, 62, 63, 64, 65, 66, 116, 117, 118, 119, 120, 121, 122, 123, 50, 51, 52, 53, 124, 125, 126, 127, 89, 128, 129, 130, 131, 132, 133, 134, 135, 136, 137, 138, 139, 140, 141, 142, 143, 144, 145, 146, 147, 148, 149, 150] (by decide +kernel) (by decide +kernel)
set_option maxRecDepth 20000 in
theorem gX4_beginChange_X4_agree : GoodIn wsX4_beginChange (wsV RX4 123 RX4 yX4_agree wsX4_agree) := goodIn_app (goodIn_of _ (by decide +kernel)) ggX4_beginChange_X4_agree
theorem dX4_beginChange_0 : decode cX4_beginChange 0 = .ok (.aload_n 0, 1) := by decide +kernel
theorem dX4_beginChange_1 : decode cX4_beginChange 1 = .ok (.iload_n 1, 1) := by decide +kernel
theorem dX4_beginChange_2 : decode cX4_beginChange 2 = .ok (.invokevirtual 73, 3) := by decide +kernel
theorem dX4_beginChange_5 : decode cX4_beginChange 5 = .ok (.ifCond .eq 14, 3) := by decide +kernel
theorem dX4_beginChange_8 : decode cX4_beginChange 8 = .ok (.aload_n 0, 1) := by decide +kernel
theorem dX4_beginChange_9 : decode cX4_beginChange 9 = .ok (.getfield 21, 3) := by decide +kernel
theorem dX4_beginChange_12 : decode cX4_beginChange 12 = .ok (.iload_n 2, 1) := by decide +kernel
theorem dX4_beginChange_13 : decode cX4_beginChange 13 = .ok (.invokevirtual 94, 3) := by decide +kernel
theorem dX4_beginChange_16 : decode cX4_beginChange 16 = .ok (.ifCond .ne 5, 3) := by decide +kernel
theorem dX4_beginChange_19 : decode cX4_beginChange 19 = .ok (.iconst (-1), 1) := by decide +kernel
theorem dX4_beginChange_20 : decode cX4_beginChange 20 = .ok (.ireturn, 1) := by decide +kernel
theorem dX4_beginChange_21 : decode cX4_beginChange 21 = .ok (.aload_n 0, 1) := by decide +kernel
theorem dX4_beginChange_22 : decode cX4_beginChange 22 = .ok (.aload_n 0, 1) := by decide +kernel
theorem dX4_beginChange_23 : decode cX4_beginChange 23 = .ok (.getfield 35, 3) := by decide +kernel
theorem dX4_beginChange_26 : decode cX4_beginChange 26 = .ok (.invokevirtual 97, 3) := by decide +kernel
theorem dX4_beginChange_29 : decode cX4_beginChange 29 = .ok (.invokevirtual 100, 3) := by decide +kernel
theorem dX4_beginChange_32 : decode cX4_beginChange 32 = .ok (.istore_n 3, 1) := by decide +kernel
theorem dX4_beginChange_33 : decode cX4_beginChange 33 = .ok (.aload_n 0, 1) := by decide +kernel
theorem dX4_beginChange_34 : decode cX4_beginChange 34 = .ok (.invokevirtual 103, 3) := by decide +kernel
theorem dX4_beginChange_37 : decode cX4_beginChange 37 = .ok (.ifCond .ne 30, 3) := by decide +kernel
theorem dX4_beginChange_40 : decode cX4_beginChange 40 = .ok (.aload_n 0, 1) := by decide +kernel
theorem dX4_beginChange_41 : decode cX4_beginChange 41 = .ok (.iload_n 1, 1) := by decide +kernel
theorem dX4_beginChange_42 : decode cX4_beginChange 42 = .ok (.invokevirtual 106, 3) := by decide +kernel
theorem dX4_beginChange_45 : decode cX4_beginChange 45 = .ok (.ifCond .eq 22, 3) := by decide +kernel
theorem dX4_beginChange_48 : decode cX4_beginChange 48 = .ok (.aload_n 0, 1) := by decide +kernel
theorem dX4_beginChange_49 : decode cX4_beginChange 49 = .ok (.getfield 15, 3) := by decide +kernel
theorem dX4_beginChange_52 : decode cX4_beginChange 52 = .ok (.iload_n 1, 1) := by decide +kernel
theorem dX4_beginChange_53 : decode cX4_beginChange 53 = .ok (.iaload, 1) := by decide +kernel
theorem dX4_beginChange_54 : decode cX4_beginChange 54 = .ok (.aload_n 0, 1) := by decide +kernel
theorem dX4_beginChange_55 : decode cX4_beginChange 55 = .ok (.getfield 67, 3) := by decide +kernel
theorem dX4_beginChange_58 : decode cX4_beginChange 58 = .ok (.if_icmp .lt 9, 3) := by decide +kernel
theorem dX4_beginChange_61 : decode cX4_beginChange 61 = .ok (.iload_n 3, 1) := by decide +kernel
theorem dX4_beginChange_62 : decode cX4_beginChange 62 = .ok (.bipush (-9), 2) := by decide +kernel
theorem dX4_beginChange_64 : decode cX4_beginChange 64 = .ok (.if_icmp .ne 6, 3) := by decide +kernel
theorem dX4_beginChange_67 : decode cX4_beginChange 67 = .ok (.bipush (-2), 2) := by decide +kernel
theorem dX4_beginChange_69 : decode cX4_beginChange 69 = .ok (.ireturn, 1) := by decide +kernel
theorem dX4_beginChange_70 : decode cX4_beginChange 70 = .ok (.aload_n 0, 1) := by decide +kernel
theorem dX4_beginChange_71 : decode cX4_beginChange 71 = .ok (.getfield 67, 3) := by decide +kernel
theorem dX4_beginChange_74 : decode cX4_beginChange 74 = .ok (.bipush 60, 2) := by decide +kernel
theorem dX4_beginChange_76 : decode cX4_beginChange 76 = .ok (.if_icmp .lt 6, 3) := by decide +kernel
theorem dX4_beginChange_79 : decode cX4_beginChange 79 = .ok (.bipush (-3), 2) := by decide +kernel
theorem dX4_beginChange_81 : decode cX4_beginChange 81 = .ok (.ireturn, 1) := by decide +kernel
theorem dX4_beginChange_82 : decode cX4_beginChange 82 = .ok (.aload_n 0, 1) := by decide +kernel
theorem dX4_beginChange_83 : decode cX4_beginChange 83 = .ok (.getfield 35, 3) := by decide +kernel
theorem dX4_beginChange_86 : decode cX4_beginChange 86 = .ok (.aload_n 0, 1) := by decide +kernel
theorem dX4_beginChange_87 : decode cX4_beginChange 87 = .ok (.invokevirtual 109, 3) := by decide +kernel
theorem dX4_beginChange_90 : decode cX4_beginChange 90 = .ok (.iload_n 3, 1) := by decide +kernel
theorem dX4_beginChange_91 : decode cX4_beginChange 91 = .ok (.iload_n 2, 1) := by decide +kernel
theorem dX4_beginChange_92 : decode cX4_beginChange 92 = .ok (.invokevirtual 112, 3) := by decide +kernel
theorem dX4_beginChange_95 : decode cX4_beginChange 95 = .ok (.aload_n 0, 1) := by decide +kernel
theorem dX4_beginChange_96 : decode cX4_beginChange 96 = .ok (.getfield 25, 3) := by decide +kernel
theorem dX4_beginChange_99 : decode cX4_beginChange 99 = .ok (.iload_n 2, 1) := by decide +kernel
theorem dX4_beginChange_100 : decode cX4_beginChange 100 = .ok (.iload_n 3, 1) := by decide +kernel
theorem dX4_beginChange_101 : decode cX4_beginChange 101 = .ok (.invokevirtual 116, 3) := by decide +kernel
theorem dX4_beginChange_104 : decode cX4_beginChange 104 = .ok (.aload_n 0, 1) := by decide +kernel
theorem dX4_beginChange_105 : decode cX4_beginChange 105 = .ok (.aload_n 0, 1) := by decide +kernel
theorem dX4_beginChange_106 : decode cX4_beginChange 106 = .ok (.getfield 67, 3) := by decide +kernel
theorem dX4_beginChange_109 : decode cX4_beginChange 109 = .ok (.putfield 28, 3) := by decide +kernel
theorem dX4_beginChange_112 : decode cX4_beginChange 112 = .ok (.aload_n 0, 1) := by decide +kernel
theorem dX4_beginChange_113 : decode cX4_beginChange 113 = .ok (.iload_n 1, 1) := by decide +kernel
theorem dX4_beginChange_114 : decode cX4_beginChange 114 = .ok (.bipush (-9), 2) := by decide +kernel
theorem dX4_beginChange_116 : decode cX4_beginChange 116 = .ok (.invokevirtual 120, 3) := by decide +kernel
theorem dX4_beginChange_119 : decode cX4_beginChange 119 = .ok (.aload_n 0, 1) := by decide +kernel
theorem dX4_beginChange_120 : decode cX4_beginChange 120 = .ok (.invokevirtual 123, 3) := by decide +kernel
theorem dX4_beginChange_123 : decode cX4_beginChange 123 = .ok (.pop, 1) := by decide +kernel
theorem dX4_beginChange_124 : decode cX4_beginChange 124 = .ok (.iload_n 3, 1) := by decide +kernel
theorem dX4_beginChange_125 : decode cX4_beginChange 125 = .ok (.ireturn, 1) := by decide +kernel
set_option maxRecDepth 20000 in
theorem ggX4_forgeLot_X4_isVillager : GoodIn wsX4_forgeLot wsX4_isVillager := goodIn_r _ [7, 8, 103, 104, 105, 106, 107, 108, 109, 110, 111, 112, 113, 114, 115] (by decide +kernel) (by decide +kernel)
set_option maxRecDepth 20000 in
theorem gX4_forgeLot_X4_isVillager : GoodIn wsX4_forgeLot (wsV RX4 73 RX4 yX4_isVillager wsX4_isVillager) := goodIn_app (goodIn_of _ (by decide +kernel)) ggX4_forgeLot_X4_isVillager
set_option maxRecDepth 20000 in
theorem ggX4_forgeLot_X4_isChanging : GoodIn wsX4_forgeLot wsX4_isChanging := goodIn_r _ [12, 13, 103, 104, 105, 106, 107, 108, 109, 110, 111, 112, 113, 114, 115] (by decide +kernel) (by decide +kernel)
set_option maxRecDepth 20000 in
theorem gX4_forgeLot_X4_isChanging : GoodIn wsX4_forgeLot (wsV RX4 103 RX4 yX4_isChanging wsX4_isChanging) := goodIn_app (goodIn_of _ (by decide +kernel)) ggX4_forgeLot_X4_isChanging
set_option maxRecDepth 20000 in
theorem ggX4_forgeLot_X4_isElder : GoodIn wsX4_forgeLot wsX4_isElder := goodIn_r _ [17, 18, 2, 19, 20, 21, 22, 23, 24, 25, 26, 27, 28, 29, 103, 104, 105, 106, 107, 108, 109, 110, 111, 112, 113, 114, 115, 116, 117] (by decide +kernel) (by decide +kernel)
set_option maxRecDepth 20000 in
theorem gX4_forgeLot_X4_isElder : GoodIn wsX4_forgeLot (wsV RX4 126 RX4 yX4_isElder wsX4_isElder) := goodIn_app (goodIn_of _ (by decide +kernel)) ggX4_forgeLot_X4_isElder
set_option maxRecDepth 20000 in
theorem ggX4_forgeLot_X2_lastSeat : GoodIn wsX4_forgeLot wsX2_lastSeat := goodIn_r _ [34, 35, 36, 118, 119, 120, 121, 122, 123, 124] (by decide +kernel) (by decide +kernel)
set_option maxRecDepth 20000 in
theorem gX4_forgeLot_X2_lastSeat : GoodIn wsX4_forgeLot (wsV RX4 129 RX2 yX2_lastSeat wsX2_lastSeat) := goodIn_app (goodIn_of _ (by decide +kernel)) ggX4_forgeLot_X2_lastSeat
set_option maxRecDepth 20000 in
theorem ggX4_forgeLot_X0_elderOn : GoodIn wsX4_forgeLot wsX0_elderOn := goodIn_r _ [40, 29, 41, 42, 43, 22, 44, 28, 116, 117] (by decide +kernel) (by decide +kernel)
set_option maxRecDepth 20000 in
theorem gX4_forgeLot_X0_elderOn : GoodIn wsX4_forgeLot (wsV RX4 132 RX0 yX0_elderOn wsX0_elderOn) := goodIn_app (goodIn_of _ (by decide +kernel)) ggX4_forgeLot_X0_elderOn
set_option maxRecDepth 20000 in
theorem ggX4_forgeLot_X0_place : GoodIn wsX4_forgeLot wsX0_place := goodIn_r _ [48, 29, 41, 42, 43, 22, 44, 28, 116, 117] (by decide +kernel) (by decide +kernel)
set_option maxRecDepth 20000 in
theorem gX4_forgeLot_X0_place : GoodIn wsX4_forgeLot (wsV RX4 116 RX0 yX0_place wsX0_place) := goodIn_app (goodIn_of _ (by decide +kernel)) ggX4_forgeLot_X0_place
set_option maxRecDepth 20000 in
theorem ggX4_forgeLot_X2_forgeLast : GoodIn wsX4_forgeLot wsX2_forgeLast := goodIn_r _ [52, 35, 53, 118, 119, 120, 121, 122, 123, 124] (by decide +kernel) (by decide +kernel)
set_option maxRecDepth 20000 in
theorem gX4_forgeLot_X2_forgeLast : GoodIn wsX4_forgeLot (wsV RX4 135 RX2 yX2_forgeLast wsX2_forgeLast) := goodIn_app (goodIn_of _ (by decide +kernel)) ggX4_forgeLot_X2_forgeLast
set_option maxRecDepth 20000 in
theorem ggX4_forgeLot_X4_agree : GoodIn wsX4_forgeLot wsX4_agree := goodIn_r _ [57, 58, 59, 13, 60, 61, 62, 6, 63, 2, 18, 64, 65, 66, 67, 68, 69, 70, 22, 71, 28, 37, 38, 39, 40, 29, 41, 42, 43, 44, 72, 73, 74, 75, 76, 3, 4, 5, 7, 8, 77, 78, 79, 80, 81, 82, 83, 84, 85, 86, 87, 88, 89, 9, 10, 11, 12, 90, 91, 92, 93, 94, 95, 96, 97, 98, 99, 100, 101, 102, 103, 104, 105, 106, 107, 108, 109, 110, 111, 112, 113, 114, 115, 116, 117] (by decide +kernel) (by decide +kernel)
set_option maxRecDepth 20000 in
theorem gX4_forgeLot_X4_agree : GoodIn wsX4_forgeLot (wsV RX4 123 RX4 yX4_agree wsX4_agree) := goodIn_app (goodIn_of _ (by decide +kernel)) ggX4_forgeLot_X4_agree
theorem dX4_forgeLot_0 : decode cX4_forgeLot 0 = .ok (.aload_n 0, 1) := by decide +kernel
theorem dX4_forgeLot_1 : decode cX4_forgeLot 1 = .ok (.iload_n 1, 1) := by decide +kernel
theorem dX4_forgeLot_2 : decode cX4_forgeLot 2 = .ok (.invokevirtual 73, 3) := by decide +kernel
theorem dX4_forgeLot_5 : decode cX4_forgeLot 5 = .ok (.ifCond .ne 5, 3) := by decide +kernel
theorem dX4_forgeLot_8 : decode cX4_forgeLot 8 = .ok (.iconst (-1), 1) := by decide +kernel
theorem dX4_forgeLot_9 : decode cX4_forgeLot 9 = .ok (.ireturn, 1) := by decide +kernel
theorem dX4_forgeLot_10 : decode cX4_forgeLot 10 = .ok (.aload_n 0, 1) := by decide +kernel
theorem dX4_forgeLot_11 : decode cX4_forgeLot 11 = .ok (.invokevirtual 103, 3) := by decide +kernel
theorem dX4_forgeLot_14 : decode cX4_forgeLot 14 = .ok (.ifCond .eq 11, 3) := by decide +kernel
theorem dX4_forgeLot_17 : decode cX4_forgeLot 17 = .ok (.aload_n 0, 1) := by decide +kernel
theorem dX4_forgeLot_18 : decode cX4_forgeLot 18 = .ok (.iload_n 1, 1) := by decide +kernel
theorem dX4_forgeLot_19 : decode cX4_forgeLot 19 = .ok (.invokevirtual 126, 3) := by decide +kernel
theorem dX4_forgeLot_22 : decode cX4_forgeLot 22 = .ok (.ifCond .eq 6, 3) := by decide +kernel
theorem dX4_forgeLot_25 : decode cX4_forgeLot 25 = .ok (.bipush (-2), 2) := by decide +kernel
theorem dX4_forgeLot_27 : decode cX4_forgeLot 27 = .ok (.ireturn, 1) := by decide +kernel
theorem dX4_forgeLot_28 : decode cX4_forgeLot 28 = .ok (.aload_n 0, 1) := by decide +kernel
theorem dX4_forgeLot_29 : decode cX4_forgeLot 29 = .ok (.getfield 35, 3) := by decide +kernel
theorem dX4_forgeLot_32 : decode cX4_forgeLot 32 = .ok (.invokevirtual 129, 3) := by decide +kernel
theorem dX4_forgeLot_35 : decode cX4_forgeLot 35 = .ok (.istore_n 2, 1) := by decide +kernel
theorem dX4_forgeLot_36 : decode cX4_forgeLot 36 = .ok (.aload_n 0, 1) := by decide +kernel
theorem dX4_forgeLot_37 : decode cX4_forgeLot 37 = .ok (.getfield 25, 3) := by decide +kernel
theorem dX4_forgeLot_40 : decode cX4_forgeLot 40 = .ok (.iload_n 2, 1) := by decide +kernel
theorem dX4_forgeLot_41 : decode cX4_forgeLot 41 = .ok (.invokevirtual 132, 3) := by decide +kernel
theorem dX4_forgeLot_44 : decode cX4_forgeLot 44 = .ok (.istore_n 3, 1) := by decide +kernel
theorem dX4_forgeLot_45 : decode cX4_forgeLot 45 = .ok (.aload_n 0, 1) := by decide +kernel
theorem dX4_forgeLot_46 : decode cX4_forgeLot 46 = .ok (.getfield 25, 3) := by decide +kernel
theorem dX4_forgeLot_49 : decode cX4_forgeLot 49 = .ok (.iload_n 2, 1) := by decide +kernel
theorem dX4_forgeLot_50 : decode cX4_forgeLot 50 = .ok (.iload_n 1, 1) := by decide +kernel
theorem dX4_forgeLot_51 : decode cX4_forgeLot 51 = .ok (.invokevirtual 116, 3) := by decide +kernel
theorem dX4_forgeLot_54 : decode cX4_forgeLot 54 = .ok (.aload_n 0, 1) := by decide +kernel
theorem dX4_forgeLot_55 : decode cX4_forgeLot 55 = .ok (.getfield 35, 3) := by decide +kernel
theorem dX4_forgeLot_58 : decode cX4_forgeLot 58 = .ok (.iload_n 1, 1) := by decide +kernel
theorem dX4_forgeLot_59 : decode cX4_forgeLot 59 = .ok (.invokevirtual 135, 3) := by decide +kernel
theorem dX4_forgeLot_62 : decode cX4_forgeLot 62 = .ok (.aload_n 0, 1) := by decide +kernel
theorem dX4_forgeLot_63 : decode cX4_forgeLot 63 = .ok (.invokevirtual 123, 3) := by decide +kernel
theorem dX4_forgeLot_66 : decode cX4_forgeLot 66 = .ok (.pop, 1) := by decide +kernel
theorem dX4_forgeLot_67 : decode cX4_forgeLot 67 = .ok (.iload_n 3, 1) := by decide +kernel
theorem dX4_forgeLot_68 : decode cX4_forgeLot 68 = .ok (.ireturn, 1) := by decide +kernel
set_option maxRecDepth 20000 in
theorem ggX4_proposeEntry_X4_isVillager : GoodIn wsX4_proposeEntry wsX4_isVillager := goodIn_r _ [7, 8, 97, 98, 99, 100, 101, 102, 103, 104, 105, 106, 107, 108, 109] (by decide +kernel) (by decide +kernel)
set_option maxRecDepth 20000 in
theorem gX4_proposeEntry_X4_isVillager : GoodIn wsX4_proposeEntry (wsV RX4 73 RX4 yX4_isVillager wsX4_isVillager) := goodIn_app (goodIn_of _ (by decide +kernel)) ggX4_proposeEntry_X4_isVillager
set_option maxRecDepth 20000 in
theorem ggX4_proposeEntry_X4_mayAct : GoodIn wsX4_proposeEntry wsX4_mayAct := goodIn_r _ [12, 13, 14, 15, 6, 16, 17, 18, 19, 20, 21, 22, 23, 24, 25, 26, 27, 28, 29, 30, 31, 32, 33, 34, 3, 4, 5, 7, 8, 97, 98, 99, 100, 101, 102, 103, 104, 105, 106, 107, 108, 109, 110, 111] (by decide +kernel) (by decide +kernel)
set_option maxRecDepth 20000 in
theorem gX4_proposeEntry_X4_mayAct : GoodIn wsX4_proposeEntry (wsV RX4 106 RX4 yX4_mayAct wsX4_mayAct) := goodIn_app (goodIn_of _ (by decide +kernel)) ggX4_proposeEntry_X4_mayAct
set_option maxRecDepth 20000 in
theorem ggX4_proposeEntry_X4_addEntry : GoodIn wsX4_proposeEntry wsX4_addEntry := goodIn_r _ [38, 39, 2, 40, 41, 42, 1, 97, 98, 99, 100, 101, 102, 103, 104, 105, 106, 107, 108, 109] (by decide +kernel) (by decide +kernel)
set_option maxRecDepth 20000 in
theorem gX4_proposeEntry_X4_addEntry : GoodIn wsX4_proposeEntry (wsV RX4 120 RX4 yX4_addEntry wsX4_addEntry) := goodIn_app (goodIn_of _ (by decide +kernel)) ggX4_proposeEntry_X4_addEntry
set_option maxRecDepth 20000 in
theorem ggX4_proposeEntry_X4_agree : GoodIn wsX4_proposeEntry wsX4_agree := goodIn_r _ [46, 47, 2, 48, 49, 50, 51, 6, 52, 18, 17, 53, 54, 55, 56, 57, 58, 59, 22, 60, 28, 61, 62, 63, 64, 29, 65, 66, 67, 68, 69, 70, 71, 72, 1, 3, 4, 5, 7, 8, 30, 31, 32, 33, 34, 73, 74, 75, 76, 77, 78, 79, 80, 81, 82, 83, 84, 85, 86, 87, 88, 41, 89, 90, 91, 92, 93, 94, 95, 96, 97, 98, 99, 100, 101, 102, 103, 104, 105, 106, 107, 108, 109, 110, 111] (by decide +kernel) (by decide +kernel)
set_option maxRecDepth 20000 in
theorem gX4_proposeEntry_X4_agree : GoodIn wsX4_proposeEntry (wsV RX4 123 RX4 yX4_agree wsX4_agree) := goodIn_app (goodIn_of _ (by decide +kernel)) ggX4_proposeEntry_X4_agree
theorem dX4_proposeEntry_0 : decode cX4_proposeEntry 0 = .ok (.aload_n 0, 1) := by decide +kernel
theorem dX4_proposeEntry_1 : decode cX4_proposeEntry 1 = .ok (.iload_n 1, 1) := by decide +kernel
theorem dX4_proposeEntry_2 : decode cX4_proposeEntry 2 = .ok (.invokevirtual 73, 3) := by decide +kernel
theorem dX4_proposeEntry_5 : decode cX4_proposeEntry 5 = .ok (.ifCond .eq 14, 3) := by decide +kernel
theorem dX4_proposeEntry_8 : decode cX4_proposeEntry 8 = .ok (.iload_n 2, 1) := by decide +kernel
theorem dX4_proposeEntry_9 : decode cX4_proposeEntry 9 = .ok (.ifCond .lt 10, 3) := by decide +kernel
theorem dX4_proposeEntry_12 : decode cX4_proposeEntry 12 = .ok (.iload_n 2, 1) := by decide +kernel
theorem dX4_proposeEntry_13 : decode cX4_proposeEntry 13 = .ok (.sipush 999, 3) := by decide +kernel
theorem dX4_proposeEntry_16 : decode cX4_proposeEntry 16 = .ok (.if_icmp .le 5, 3) := by decide +kernel
theorem dX4_proposeEntry_19 : decode cX4_proposeEntry 19 = .ok (.iconst (-1), 1) := by decide +kernel
theorem dX4_proposeEntry_20 : decode cX4_proposeEntry 20 = .ok (.ireturn, 1) := by decide +kernel
theorem dX4_proposeEntry_21 : decode cX4_proposeEntry 21 = .ok (.aload_n 0, 1) := by decide +kernel
theorem dX4_proposeEntry_22 : decode cX4_proposeEntry 22 = .ok (.iload_n 1, 1) := by decide +kernel
theorem dX4_proposeEntry_23 : decode cX4_proposeEntry 23 = .ok (.invokevirtual 106, 3) := by decide +kernel
theorem dX4_proposeEntry_26 : decode cX4_proposeEntry 26 = .ok (.ifCond .eq 16, 3) := by decide +kernel
theorem dX4_proposeEntry_29 : decode cX4_proposeEntry 29 = .ok (.aload_n 0, 1) := by decide +kernel
theorem dX4_proposeEntry_30 : decode cX4_proposeEntry 30 = .ok (.getfield 15, 3) := by decide +kernel
theorem dX4_proposeEntry_33 : decode cX4_proposeEntry 33 = .ok (.iload_n 1, 1) := by decide +kernel
theorem dX4_proposeEntry_34 : decode cX4_proposeEntry 34 = .ok (.iaload, 1) := by decide +kernel
theorem dX4_proposeEntry_35 : decode cX4_proposeEntry 35 = .ok (.aload_n 0, 1) := by decide +kernel
theorem dX4_proposeEntry_36 : decode cX4_proposeEntry 36 = .ok (.getfield 67, 3) := by decide +kernel
theorem dX4_proposeEntry_39 : decode cX4_proposeEntry 39 = .ok (.if_icmp .ge 6, 3) := by decide +kernel
theorem dX4_proposeEntry_42 : decode cX4_proposeEntry 42 = .ok (.bipush (-2), 2) := by decide +kernel
theorem dX4_proposeEntry_44 : decode cX4_proposeEntry 44 = .ok (.ireturn, 1) := by decide +kernel
theorem dX4_proposeEntry_45 : decode cX4_proposeEntry 45 = .ok (.aload_n 0, 1) := by decide +kernel
theorem dX4_proposeEntry_46 : decode cX4_proposeEntry 46 = .ok (.getfield 67, 3) := by decide +kernel
theorem dX4_proposeEntry_49 : decode cX4_proposeEntry 49 = .ok (.bipush 60, 2) := by decide +kernel
theorem dX4_proposeEntry_51 : decode cX4_proposeEntry 51 = .ok (.if_icmp .lt 6, 3) := by decide +kernel
theorem dX4_proposeEntry_54 : decode cX4_proposeEntry 54 = .ok (.bipush (-3), 2) := by decide +kernel
theorem dX4_proposeEntry_56 : decode cX4_proposeEntry 56 = .ok (.ireturn, 1) := by decide +kernel
theorem dX4_proposeEntry_57 : decode cX4_proposeEntry 57 = .ok (.aload_n 0, 1) := by decide +kernel
theorem dX4_proposeEntry_58 : decode cX4_proposeEntry 58 = .ok (.iload_n 1, 1) := by decide +kernel
theorem dX4_proposeEntry_59 : decode cX4_proposeEntry 59 = .ok (.iload_n 2, 1) := by decide +kernel
theorem dX4_proposeEntry_60 : decode cX4_proposeEntry 60 = .ok (.invokevirtual 120, 3) := by decide +kernel
theorem dX4_proposeEntry_63 : decode cX4_proposeEntry 63 = .ok (.aload_n 0, 1) := by decide +kernel
theorem dX4_proposeEntry_64 : decode cX4_proposeEntry 64 = .ok (.invokevirtual 123, 3) := by decide +kernel
theorem dX4_proposeEntry_67 : decode cX4_proposeEntry 67 = .ok (.pop, 1) := by decide +kernel
theorem dX4_proposeEntry_68 : decode cX4_proposeEntry 68 = .ok (.aload_n 0, 1) := by decide +kernel
theorem dX4_proposeEntry_69 : decode cX4_proposeEntry 69 = .ok (.getfield 67, 3) := by decide +kernel
theorem dX4_proposeEntry_72 : decode cX4_proposeEntry 72 = .ok (.iconst 1, 1) := by decide +kernel
theorem dX4_proposeEntry_73 : decode cX4_proposeEntry 73 = .ok (.isub, 1) := by decide +kernel
theorem dX4_proposeEntry_74 : decode cX4_proposeEntry 74 = .ok (.ireturn, 1) := by decide +kernel
set_option maxRecDepth 20000 in
theorem ggX4_secondEntry_X4_isVillager : GoodIn wsX4_secondEntry wsX4_isVillager := goodIn_r _ [6, 7, 94, 95, 96, 97, 98, 99, 100, 101, 102, 103, 104, 105, 106] (by decide +kernel) (by decide +kernel)
set_option maxRecDepth 20000 in
theorem gX4_secondEntry_X4_isVillager : GoodIn wsX4_secondEntry (wsV RX4 73 RX4 yX4_isVillager wsX4_isVillager) := goodIn_app (goodIn_of _ (by decide +kernel)) ggX4_secondEntry_X4_isVillager
set_option maxRecDepth 20000 in
theorem ggX4_secondEntry_X4_isEntry : GoodIn wsX4_secondEntry wsX4_isEntry := goodIn_r _ [11, 12, 94, 95, 96, 97, 98, 99, 100, 101, 102, 103, 104, 105, 106] (by decide +kernel) (by decide +kernel)
set_option maxRecDepth 20000 in
theorem gX4_secondEntry_X4_isEntry : GoodIn wsX4_secondEntry (wsV RX4 138 RX4 yX4_isEntry wsX4_isEntry) := goodIn_app (goodIn_of _ (by decide +kernel)) ggX4_secondEntry_X4_isEntry
set_option maxRecDepth 20000 in
theorem ggX4_secondEntry_X4_mayAct : GoodIn wsX4_secondEntry wsX4_mayAct := goodIn_r _ [16, 17, 18, 19, 5, 20, 21, 22, 23, 24, 25, 26, 27, 28, 29, 30, 31, 32, 33, 34, 35, 36, 37, 38, 2, 3, 4, 6, 7, 94, 95, 96, 97, 98, 99, 100, 101, 102, 103, 104, 105, 106, 107, 108] (by decide +kernel) (by decide +kernel)
set_option maxRecDepth 20000 in
theorem gX4_secondEntry_X4_mayAct : GoodIn wsX4_secondEntry (wsV RX4 106 RX4 yX4_mayAct wsX4_mayAct) := goodIn_app (goodIn_of _ (by decide +kernel)) ggX4_secondEntry_X4_mayAct
set_option maxRecDepth 20000 in
theorem ggX4_secondEntry_X4_agree : GoodIn wsX4_secondEntry wsX4_agree := goodIn_r _ [42, 43, 12, 44, 45, 46, 47, 5, 48, 22, 21, 49, 50, 51, 52, 53, 54, 55, 26, 56, 32, 57, 58, 59, 60, 33, 61, 62, 63, 64, 65, 66, 67, 68, 1, 2, 3, 4, 6, 7, 34, 35, 36, 37, 38, 69, 70, 71, 72, 73, 74, 75, 76, 77, 78, 79, 80, 81, 82, 83, 84, 85, 86, 87, 88, 89, 90, 91, 92, 93, 94, 95, 96, 97, 98, 99, 100, 101, 102, 103, 104, 105, 106, 107, 108] (by decide +kernel) (by decide +kernel)
set_option maxRecDepth 20000 in
theorem gX4_secondEntry_X4_agree : GoodIn wsX4_secondEntry (wsV RX4 123 RX4 yX4_agree wsX4_agree) := goodIn_app (goodIn_of _ (by decide +kernel)) ggX4_secondEntry_X4_agree
theorem dX4_secondEntry_0 : decode cX4_secondEntry 0 = .ok (.aload_n 0, 1) := by decide +kernel
theorem dX4_secondEntry_1 : decode cX4_secondEntry 1 = .ok (.iload_n 1, 1) := by decide +kernel
theorem dX4_secondEntry_2 : decode cX4_secondEntry 2 = .ok (.invokevirtual 73, 3) := by decide +kernel
theorem dX4_secondEntry_5 : decode cX4_secondEntry 5 = .ok (.ifCond .eq 11, 3) := by decide +kernel
theorem dX4_secondEntry_8 : decode cX4_secondEntry 8 = .ok (.aload_n 0, 1) := by decide +kernel
theorem dX4_secondEntry_9 : decode cX4_secondEntry 9 = .ok (.iload_n 2, 1) := by decide +kernel
theorem dX4_secondEntry_10 : decode cX4_secondEntry 10 = .ok (.invokevirtual 138, 3) := by decide +kernel
theorem dX4_secondEntry_13 : decode cX4_secondEntry 13 = .ok (.ifCond .ne 5, 3) := by decide +kernel
theorem dX4_secondEntry_16 : decode cX4_secondEntry 16 = .ok (.iconst (-1), 1) := by decide +kernel
theorem dX4_secondEntry_17 : decode cX4_secondEntry 17 = .ok (.ireturn, 1) := by decide +kernel
theorem dX4_secondEntry_18 : decode cX4_secondEntry 18 = .ok (.aload_n 0, 1) := by decide +kernel
theorem dX4_secondEntry_19 : decode cX4_secondEntry 19 = .ok (.iload_n 1, 1) := by decide +kernel
theorem dX4_secondEntry_20 : decode cX4_secondEntry 20 = .ok (.invokevirtual 106, 3) := by decide +kernel
theorem dX4_secondEntry_23 : decode cX4_secondEntry 23 = .ok (.ifCond .eq 13, 3) := by decide +kernel
theorem dX4_secondEntry_26 : decode cX4_secondEntry 26 = .ok (.aload_n 0, 1) := by decide +kernel
theorem dX4_secondEntry_27 : decode cX4_secondEntry 27 = .ok (.getfield 15, 3) := by decide +kernel
theorem dX4_secondEntry_30 : decode cX4_secondEntry 30 = .ok (.iload_n 1, 1) := by decide +kernel
theorem dX4_secondEntry_31 : decode cX4_secondEntry 31 = .ok (.iaload, 1) := by decide +kernel
theorem dX4_secondEntry_32 : decode cX4_secondEntry 32 = .ok (.iload_n 2, 1) := by decide +kernel
theorem dX4_secondEntry_33 : decode cX4_secondEntry 33 = .ok (.if_icmp .eq 6, 3) := by decide +kernel
theorem dX4_secondEntry_36 : decode cX4_secondEntry 36 = .ok (.bipush (-2), 2) := by decide +kernel
theorem dX4_secondEntry_38 : decode cX4_secondEntry 38 = .ok (.ireturn, 1) := by decide +kernel
theorem dX4_secondEntry_39 : decode cX4_secondEntry 39 = .ok (.aload_n 0, 1) := by decide +kernel
theorem dX4_secondEntry_40 : decode cX4_secondEntry 40 = .ok (.getfield 15, 3) := by decide +kernel
theorem dX4_secondEntry_43 : decode cX4_secondEntry 43 = .ok (.iload_n 1, 1) := by decide +kernel
theorem dX4_secondEntry_44 : decode cX4_secondEntry 44 = .ok (.dup2, 1) := by decide +kernel
theorem dX4_secondEntry_45 : decode cX4_secondEntry 45 = .ok (.iaload, 1) := by decide +kernel
theorem dX4_secondEntry_46 : decode cX4_secondEntry 46 = .ok (.iconst 1, 1) := by decide +kernel
theorem dX4_secondEntry_47 : decode cX4_secondEntry 47 = .ok (.iadd, 1) := by decide +kernel
theorem dX4_secondEntry_48 : decode cX4_secondEntry 48 = .ok (.iastore, 1) := by decide +kernel
theorem dX4_secondEntry_49 : decode cX4_secondEntry 49 = .ok (.aload_n 0, 1) := by decide +kernel
theorem dX4_secondEntry_50 : decode cX4_secondEntry 50 = .ok (.invokevirtual 123, 3) := by decide +kernel
theorem dX4_secondEntry_53 : decode cX4_secondEntry 53 = .ok (.ireturn, 1) := by decide +kernel
set_option maxRecDepth 20000 in
theorem ggX4_learnEntries_X4_isVillager : GoodIn wsX4_learnEntries wsX4_isVillager := goodIn_r _ [12, 13, 14, 15, 16, 17, 18, 19, 20, 21, 22, 23, 24, 25, 26] (by decide +kernel) (by decide +kernel)
set_option maxRecDepth 20000 in
theorem gX4_learnEntries_X4_isVillager : GoodIn wsX4_learnEntries (wsV RX4 73 RX4 yX4_isVillager wsX4_isVillager) := goodIn_app (goodIn_of _ (by decide +kernel)) ggX4_learnEntries_X4_isVillager
theorem dX4_learnEntries_0 : decode cX4_learnEntries 0 = .ok (.aload_n 0, 1) := by decide +kernel
theorem dX4_learnEntries_1 : decode cX4_learnEntries 1 = .ok (.iload_n 1, 1) := by decide +kernel
theorem dX4_learnEntries_2 : decode cX4_learnEntries 2 = .ok (.invokevirtual 73, 3) := by decide +kernel
theorem dX4_learnEntries_5 : decode cX4_learnEntries 5 = .ok (.ifCond .ne 5, 3) := by decide +kernel
theorem dX4_learnEntries_8 : decode cX4_learnEntries 8 = .ok (.iconst (-1), 1) := by decide +kernel
theorem dX4_learnEntries_9 : decode cX4_learnEntries 9 = .ok (.ireturn, 1) := by decide +kernel
theorem dX4_learnEntries_10 : decode cX4_learnEntries 10 = .ok (.aload_n 0, 1) := by decide +kernel
theorem dX4_learnEntries_11 : decode cX4_learnEntries 11 = .ok (.getfield 9, 3) := by decide +kernel
theorem dX4_learnEntries_14 : decode cX4_learnEntries 14 = .ok (.iload_n 1, 1) := by decide +kernel
theorem dX4_learnEntries_15 : decode cX4_learnEntries 15 = .ok (.iaload, 1) := by decide +kernel
theorem dX4_learnEntries_16 : decode cX4_learnEntries 16 = .ok (.ifCond .ne 6, 3) := by decide +kernel
theorem dX4_learnEntries_19 : decode cX4_learnEntries 19 = .ok (.bipush (-2), 2) := by decide +kernel
theorem dX4_learnEntries_21 : decode cX4_learnEntries 21 = .ok (.ireturn, 1) := by decide +kernel
theorem dX4_learnEntries_22 : decode cX4_learnEntries 22 = .ok (.iconst 0, 1) := by decide +kernel
theorem dX4_learnEntries_23 : decode cX4_learnEntries 23 = .ok (.aload_n 0, 1) := by decide +kernel
theorem dX4_learnEntries_24 : decode cX4_learnEntries 24 = .ok (.getfield 70, 3) := by decide +kernel
theorem dX4_learnEntries_27 : decode cX4_learnEntries 27 = .ok (.aload_n 0, 1) := by decide +kernel
theorem dX4_learnEntries_28 : decode cX4_learnEntries 28 = .ok (.getfield 15, 3) := by decide +kernel
theorem dX4_learnEntries_31 : decode cX4_learnEntries 31 = .ok (.iload_n 1, 1) := by decide +kernel
theorem dX4_learnEntries_32 : decode cX4_learnEntries 32 = .ok (.iaload, 1) := by decide +kernel
theorem dX4_learnEntries_33 : decode cX4_learnEntries 33 = .ok (.isub, 1) := by decide +kernel
theorem dX4_learnEntries_34 : decode cX4_learnEntries 34 = .ok (.invokestatic 141, 3) := by decide +kernel
theorem dX4_learnEntries_37 : decode cX4_learnEntries 37 = .ok (.istore_n 2, 1) := by decide +kernel
theorem dX4_learnEntries_38 : decode cX4_learnEntries 38 = .ok (.aload_n 0, 1) := by decide +kernel
theorem dX4_learnEntries_39 : decode cX4_learnEntries 39 = .ok (.getfield 15, 3) := by decide +kernel
theorem dX4_learnEntries_42 : decode cX4_learnEntries 42 = .ok (.iload_n 1, 1) := by decide +kernel
theorem dX4_learnEntries_43 : decode cX4_learnEntries 43 = .ok (.dup2, 1) := by decide +kernel
theorem dX4_learnEntries_44 : decode cX4_learnEntries 44 = .ok (.iaload, 1) := by decide +kernel
theorem dX4_learnEntries_45 : decode cX4_learnEntries 45 = .ok (.iload_n 2, 1) := by decide +kernel
theorem dX4_learnEntries_46 : decode cX4_learnEntries 46 = .ok (.iadd, 1) := by decide +kernel
theorem dX4_learnEntries_47 : decode cX4_learnEntries 47 = .ok (.iastore, 1) := by decide +kernel
theorem dX4_learnEntries_48 : decode cX4_learnEntries 48 = .ok (.iload_n 2, 1) := by decide +kernel
theorem dX4_learnEntries_49 : decode cX4_learnEntries 49 = .ok (.ireturn, 1) := by decide +kernel
set_option maxRecDepth 20000 in
theorem ggX4_tally_X4_presentVillagers : GoodIn wsX4_tally wsX4_presentVillagers := goodIn_r _ [11, 1, 12, 45, 46, 47, 48, 49, 50, 51, 52, 53, 54, 55, 56, 57] (by decide +kernel) (by decide +kernel)
set_option maxRecDepth 20000 in
theorem gX4_tally_X4_presentVillagers : GoodIn wsX4_tally (wsV RX4 77 RX4 yX4_presentVillagers wsX4_presentVillagers) := goodIn_app (goodIn_of _ (by decide +kernel)) ggX4_tally_X4_presentVillagers
set_option maxRecDepth 20000 in
theorem ggX4_tally_X0_size : GoodIn wsX4_tally wsX0_size := goodIn_r _ [17, 18, 58, 59] (by decide +kernel) (by decide +kernel)
set_option maxRecDepth 20000 in
theorem gX4_tally_X0_size : GoodIn wsX4_tally (wsV RX4 147 RX0 yX0_size wsX0_size) := goodIn_app (goodIn_of _ (by decide +kernel)) ggX4_tally_X0_size
set_option maxRecDepth 20000 in
theorem ggX4_tally_X4_isChanging : GoodIn wsX4_tally wsX4_isChanging := goodIn_r _ [22, 23, 45, 46, 47, 48, 49, 50, 51, 52, 53, 54, 55, 56, 57] (by decide +kernel) (by decide +kernel)
set_option maxRecDepth 20000 in
theorem gX4_tally_X4_isChanging : GoodIn wsX4_tally (wsV RX4 103 RX4 yX4_isChanging wsX4_isChanging) := goodIn_app (goodIn_of _ (by decide +kernel)) ggX4_tally_X4_isChanging
set_option maxRecDepth 20000 in
theorem ggX4_tally_X2_state : GoodIn wsX4_tally wsX2_state := goodIn_r _ [28, 29, 60, 61, 62, 63, 64, 65, 66] (by decide +kernel) (by decide +kernel)
set_option maxRecDepth 20000 in
theorem gX4_tally_X2_state : GoodIn wsX4_tally (wsV RX4 97 RX2 yX2_state wsX2_state) := goodIn_app (goodIn_of _ (by decide +kernel)) ggX4_tally_X2_state
set_option maxRecDepth 20000 in
theorem ggX4_tally_X2_draws : GoodIn wsX4_tally wsX2_draws := goodIn_r _ [33, 34, 60, 61, 62, 63, 64, 65, 66] (by decide +kernel) (by decide +kernel)
set_option maxRecDepth 20000 in
theorem gX4_tally_X2_draws : GoodIn wsX4_tally (wsV RX4 150 RX2 yX2_draws wsX2_draws) := goodIn_app (goodIn_of _ (by decide +kernel)) ggX4_tally_X2_draws
set_option maxRecDepth 20000 in
theorem ggX4_tally_X2_forgedDraws : GoodIn wsX4_tally wsX2_forgedDraws := goodIn_r _ [38, 34, 39, 40, 41, 27, 42, 43, 44, 60, 61, 62, 63, 64, 65, 66] (by decide +kernel) (by decide +kernel)
set_option maxRecDepth 20000 in
theorem gX4_tally_X2_forgedDraws : GoodIn wsX4_tally (wsV RX4 153 RX2 yX2_forgedDraws wsX2_forgedDraws) := goodIn_app (goodIn_of _ (by decide +kernel)) ggX4_tally_X2_forgedDraws
theorem dX4_tally_0 : decode cX4_tally 0 = .ok (.iload_n 1, 1) := by decide +kernel
theorem dX4_tally_1 : decode cX4_tally 1 = .ok (.tableswitch 125 0 9 #[55, 60, 65, 73, 78, 83, 88, 101, 109, 117], 55) := by decide +kernel
theorem dX4_tally_56 : decode cX4_tally 56 = .ok (.aload_n 0, 1) := by decide +kernel
theorem dX4_tally_57 : decode cX4_tally 57 = .ok (.getfield 48, 3) := by decide +kernel
theorem dX4_tally_60 : decode cX4_tally 60 = .ok (.ireturn, 1) := by decide +kernel
theorem dX4_tally_61 : decode cX4_tally 61 = .ok (.aload_n 0, 1) := by decide +kernel
theorem dX4_tally_62 : decode cX4_tally 62 = .ok (.invokevirtual 77, 3) := by decide +kernel
theorem dX4_tally_65 : decode cX4_tally 65 = .ok (.ireturn, 1) := by decide +kernel
theorem dX4_tally_66 : decode cX4_tally 66 = .ok (.aload_n 0, 1) := by decide +kernel
theorem dX4_tally_67 : decode cX4_tally 67 = .ok (.getfield 21, 3) := by decide +kernel
theorem dX4_tally_70 : decode cX4_tally 70 = .ok (.invokevirtual 147, 3) := by decide +kernel
theorem dX4_tally_73 : decode cX4_tally 73 = .ok (.ireturn, 1) := by decide +kernel
theorem dX4_tally_74 : decode cX4_tally 74 = .ok (.aload_n 0, 1) := by decide +kernel
theorem dX4_tally_75 : decode cX4_tally 75 = .ok (.getfield 61, 3) := by decide +kernel
theorem dX4_tally_78 : decode cX4_tally 78 = .ok (.ireturn, 1) := by decide +kernel
theorem dX4_tally_79 : decode cX4_tally 79 = .ok (.aload_n 0, 1) := by decide +kernel
theorem dX4_tally_80 : decode cX4_tally 80 = .ok (.getfield 67, 3) := by decide +kernel
theorem dX4_tally_83 : decode cX4_tally 83 = .ok (.ireturn, 1) := by decide +kernel
theorem dX4_tally_84 : decode cX4_tally 84 = .ok (.aload_n 0, 1) := by decide +kernel
theorem dX4_tally_85 : decode cX4_tally 85 = .ok (.getfield 70, 3) := by decide +kernel
theorem dX4_tally_88 : decode cX4_tally 88 = .ok (.ireturn, 1) := by decide +kernel
theorem dX4_tally_89 : decode cX4_tally 89 = .ok (.aload_n 0, 1) := by decide +kernel
theorem dX4_tally_90 : decode cX4_tally 90 = .ok (.invokevirtual 103, 3) := by decide +kernel
theorem dX4_tally_93 : decode cX4_tally 93 = .ok (.ifCond .eq 7, 3) := by decide +kernel
theorem dX4_tally_96 : decode cX4_tally 96 = .ok (.iconst 1, 1) := by decide +kernel
theorem dX4_tally_97 : decode cX4_tally 97 = .ok (.goto 4, 3) := by decide +kernel
theorem dX4_tally_100 : decode cX4_tally 100 = .ok (.iconst 0, 1) := by decide +kernel
theorem dX4_tally_101 : decode cX4_tally 101 = .ok (.ireturn, 1) := by decide +kernel
theorem dX4_tally_102 : decode cX4_tally 102 = .ok (.aload_n 0, 1) := by decide +kernel
theorem dX4_tally_103 : decode cX4_tally 103 = .ok (.getfield 35, 3) := by decide +kernel
theorem dX4_tally_106 : decode cX4_tally 106 = .ok (.invokevirtual 97, 3) := by decide +kernel
theorem dX4_tally_109 : decode cX4_tally 109 = .ok (.ireturn, 1) := by decide +kernel
theorem dX4_tally_110 : decode cX4_tally 110 = .ok (.aload_n 0, 1) := by decide +kernel
theorem dX4_tally_111 : decode cX4_tally 111 = .ok (.getfield 35, 3) := by decide +kernel
theorem dX4_tally_114 : decode cX4_tally 114 = .ok (.invokevirtual 150, 3) := by decide +kernel
theorem dX4_tally_117 : decode cX4_tally 117 = .ok (.ireturn, 1) := by decide +kernel
theorem dX4_tally_118 : decode cX4_tally 118 = .ok (.aload_n 0, 1) := by decide +kernel
theorem dX4_tally_119 : decode cX4_tally 119 = .ok (.getfield 35, 3) := by decide +kernel
theorem dX4_tally_122 : decode cX4_tally 122 = .ok (.invokevirtual 153, 3) := by decide +kernel
theorem dX4_tally_125 : decode cX4_tally 125 = .ok (.ireturn, 1) := by decide +kernel
theorem dX4_tally_126 : decode cX4_tally 126 = .ok (.iconst (-1), 1) := by decide +kernel
theorem dX4_tally_127 : decode cX4_tally 127 = .ok (.ireturn, 1) := by decide +kernel
set_option maxRecDepth 20000 in
theorem ggX4_elderOf_X0_hasSeat : GoodIn wsX4_elderOf wsX0_hasSeat := goodIn_r _ [7, 8, 34, 35] (by decide +kernel) (by decide +kernel)
set_option maxRecDepth 20000 in
theorem gX4_elderOf_X0_hasSeat : GoodIn wsX4_elderOf (wsV RX4 94 RX0 yX0_hasSeat wsX0_hasSeat) := goodIn_app (goodIn_of _ (by decide +kernel)) ggX4_elderOf_X0_hasSeat
set_option maxRecDepth 20000 in
theorem ggX4_elderOf_X0_elderOn : GoodIn wsX4_elderOf wsX0_elderOn := goodIn_r _ [12, 13, 14, 4, 5, 6, 7, 8, 34, 35] (by decide +kernel) (by decide +kernel)
set_option maxRecDepth 20000 in
theorem gX4_elderOf_X0_elderOn : GoodIn wsX4_elderOf (wsV RX4 132 RX0 yX0_elderOn wsX0_elderOn) := goodIn_app (goodIn_of _ (by decide +kernel)) ggX4_elderOf_X0_elderOn
set_option maxRecDepth 20000 in
theorem ggX4_elderOf_X4_isChanging : GoodIn wsX4_elderOf wsX4_isChanging := goodIn_r _ [19, 20, 21, 22, 23, 24, 25, 26, 27, 28, 29, 30, 31, 32, 33] (by decide +kernel) (by decide +kernel)
set_option maxRecDepth 20000 in
theorem gX4_elderOf_X4_isChanging : GoodIn wsX4_elderOf (wsV RX4 103 RX4 yX4_isChanging wsX4_isChanging) := goodIn_app (goodIn_of _ (by decide +kernel)) ggX4_elderOf_X4_isChanging
theorem dX4_elderOf_0 : decode cX4_elderOf 0 = .ok (.iload_n 1, 1) := by decide +kernel
theorem dX4_elderOf_1 : decode cX4_elderOf 1 = .ok (.ifCond .lt 19, 3) := by decide +kernel
theorem dX4_elderOf_4 : decode cX4_elderOf 4 = .ok (.iload_n 1, 1) := by decide +kernel
theorem dX4_elderOf_5 : decode cX4_elderOf 5 = .ok (.iconst 1, 1) := by decide +kernel
theorem dX4_elderOf_6 : decode cX4_elderOf 6 = .ok (.if_icmp .gt 14, 3) := by decide +kernel
theorem dX4_elderOf_9 : decode cX4_elderOf 9 = .ok (.aload_n 0, 1) := by decide +kernel
theorem dX4_elderOf_10 : decode cX4_elderOf 10 = .ok (.getfield 21, 3) := by decide +kernel
theorem dX4_elderOf_13 : decode cX4_elderOf 13 = .ok (.iload_n 2, 1) := by decide +kernel
theorem dX4_elderOf_14 : decode cX4_elderOf 14 = .ok (.invokevirtual 94, 3) := by decide +kernel
theorem dX4_elderOf_17 : decode cX4_elderOf 17 = .ok (.ifCond .ne 5, 3) := by decide +kernel
theorem dX4_elderOf_20 : decode cX4_elderOf 20 = .ok (.iconst (-1), 1) := by decide +kernel
theorem dX4_elderOf_21 : decode cX4_elderOf 21 = .ok (.ireturn, 1) := by decide +kernel
theorem dX4_elderOf_22 : decode cX4_elderOf 22 = .ok (.iload_n 1, 1) := by decide +kernel
theorem dX4_elderOf_23 : decode cX4_elderOf 23 = .ok (.ifCond .ne 12, 3) := by decide +kernel
theorem dX4_elderOf_26 : decode cX4_elderOf 26 = .ok (.aload_n 0, 1) := by decide +kernel
theorem dX4_elderOf_27 : decode cX4_elderOf 27 = .ok (.getfield 21, 3) := by decide +kernel
theorem dX4_elderOf_30 : decode cX4_elderOf 30 = .ok (.iload_n 2, 1) := by decide +kernel
theorem dX4_elderOf_31 : decode cX4_elderOf 31 = .ok (.invokevirtual 132, 3) := by decide +kernel
theorem dX4_elderOf_34 : decode cX4_elderOf 34 = .ok (.ireturn, 1) := by decide +kernel
theorem dX4_elderOf_35 : decode cX4_elderOf 35 = .ok (.aload_n 0, 1) := by decide +kernel
theorem dX4_elderOf_36 : decode cX4_elderOf 36 = .ok (.invokevirtual 103, 3) := by decide +kernel
theorem dX4_elderOf_39 : decode cX4_elderOf 39 = .ok (.ifCond .eq 14, 3) := by decide +kernel
theorem dX4_elderOf_42 : decode cX4_elderOf 42 = .ok (.aload_n 0, 1) := by decide +kernel
theorem dX4_elderOf_43 : decode cX4_elderOf 43 = .ok (.getfield 25, 3) := by decide +kernel
theorem dX4_elderOf_46 : decode cX4_elderOf 46 = .ok (.iload_n 2, 1) := by decide +kernel
theorem dX4_elderOf_47 : decode cX4_elderOf 47 = .ok (.invokevirtual 132, 3) := by decide +kernel
theorem dX4_elderOf_50 : decode cX4_elderOf 50 = .ok (.goto 5, 3) := by decide +kernel
theorem dX4_elderOf_53 : decode cX4_elderOf 53 = .ok (.bipush (-9), 2) := by decide +kernel
theorem dX4_elderOf_55 : decode cX4_elderOf 55 = .ok (.ireturn, 1) := by decide +kernel
set_option maxRecDepth 20000 in
theorem ggX4_aboutVillager_X4_isVillager : GoodIn wsX4_aboutVillager wsX4_isVillager := goodIn_r _ [10, 11, 26, 27, 28, 29, 30, 31, 32, 33, 34, 35, 36, 37, 38] (by decide +kernel) (by decide +kernel)
set_option maxRecDepth 20000 in
theorem gX4_aboutVillager_X4_isVillager : GoodIn wsX4_aboutVillager (wsV RX4 73 RX4 yX4_isVillager wsX4_isVillager) := goodIn_app (goodIn_of _ (by decide +kernel)) ggX4_aboutVillager_X4_isVillager
set_option maxRecDepth 20000 in
theorem ggX4_aboutVillager_X0_seatOf : GoodIn wsX4_aboutVillager wsX0_seatOf := goodIn_r _ [16, 17, 18, 39, 40] (by decide +kernel) (by decide +kernel)
set_option maxRecDepth 20000 in
theorem gX4_aboutVillager_X0_seatOf : GoodIn wsX4_aboutVillager (wsV RX4 156 RX0 yX0_seatOf wsX0_seatOf) := goodIn_app (goodIn_of _ (by decide +kernel)) ggX4_aboutVillager_X0_seatOf
set_option maxRecDepth 20000 in
theorem ggX4_aboutVillager_X2_drawsOf : GoodIn wsX4_aboutVillager wsX2_drawsOf := goodIn_r _ [23, 24, 25, 41, 42, 43, 44, 45, 46, 47] (by decide +kernel) (by decide +kernel)
set_option maxRecDepth 20000 in
theorem gX4_aboutVillager_X2_drawsOf : GoodIn wsX4_aboutVillager (wsV RX4 159 RX2 yX2_drawsOf wsX2_drawsOf) := goodIn_app (goodIn_of _ (by decide +kernel)) ggX4_aboutVillager_X2_drawsOf
theorem dX4_aboutVillager_0 : decode cX4_aboutVillager 0 = .ok (.aload_n 0, 1) := by decide +kernel
theorem dX4_aboutVillager_1 : decode cX4_aboutVillager 1 = .ok (.iload_n 1, 1) := by decide +kernel
theorem dX4_aboutVillager_2 : decode cX4_aboutVillager 2 = .ok (.invokevirtual 73, 3) := by decide +kernel
theorem dX4_aboutVillager_5 : decode cX4_aboutVillager 5 = .ok (.ifCond .ne 5, 3) := by decide +kernel
theorem dX4_aboutVillager_8 : decode cX4_aboutVillager 8 = .ok (.iconst (-1), 1) := by decide +kernel
theorem dX4_aboutVillager_9 : decode cX4_aboutVillager 9 = .ok (.ireturn, 1) := by decide +kernel
theorem dX4_aboutVillager_10 : decode cX4_aboutVillager 10 = .ok (.iload_n 2, 1) := by decide +kernel
theorem dX4_aboutVillager_11 : decode cX4_aboutVillager 11 = .ok (.tableswitch 74 0 4 #[33, 40, 47, 56, 65], 33) := by decide +kernel
theorem dX4_aboutVillager_44 : decode cX4_aboutVillager 44 = .ok (.aload_n 0, 1) := by decide +kernel
theorem dX4_aboutVillager_45 : decode cX4_aboutVillager 45 = .ok (.getfield 9, 3) := by decide +kernel
theorem dX4_aboutVillager_48 : decode cX4_aboutVillager 48 = .ok (.iload_n 1, 1) := by decide +kernel
theorem dX4_aboutVillager_49 : decode cX4_aboutVillager 49 = .ok (.iaload, 1) := by decide +kernel
theorem dX4_aboutVillager_50 : decode cX4_aboutVillager 50 = .ok (.ireturn, 1) := by decide +kernel
theorem dX4_aboutVillager_51 : decode cX4_aboutVillager 51 = .ok (.aload_n 0, 1) := by decide +kernel
theorem dX4_aboutVillager_52 : decode cX4_aboutVillager 52 = .ok (.getfield 15, 3) := by decide +kernel
theorem dX4_aboutVillager_55 : decode cX4_aboutVillager 55 = .ok (.iload_n 1, 1) := by decide +kernel
theorem dX4_aboutVillager_56 : decode cX4_aboutVillager 56 = .ok (.iaload, 1) := by decide +kernel
theorem dX4_aboutVillager_57 : decode cX4_aboutVillager 57 = .ok (.ireturn, 1) := by decide +kernel
theorem dX4_aboutVillager_58 : decode cX4_aboutVillager 58 = .ok (.aload_n 0, 1) := by decide +kernel
theorem dX4_aboutVillager_59 : decode cX4_aboutVillager 59 = .ok (.getfield 21, 3) := by decide +kernel
theorem dX4_aboutVillager_62 : decode cX4_aboutVillager 62 = .ok (.iload_n 1, 1) := by decide +kernel
theorem dX4_aboutVillager_63 : decode cX4_aboutVillager 63 = .ok (.invokevirtual 156, 3) := by decide +kernel
theorem dX4_aboutVillager_66 : decode cX4_aboutVillager 66 = .ok (.ireturn, 1) := by decide +kernel
theorem dX4_aboutVillager_67 : decode cX4_aboutVillager 67 = .ok (.aload_n 0, 1) := by decide +kernel
theorem dX4_aboutVillager_68 : decode cX4_aboutVillager 68 = .ok (.getfield 25, 3) := by decide +kernel
theorem dX4_aboutVillager_71 : decode cX4_aboutVillager 71 = .ok (.iload_n 1, 1) := by decide +kernel
theorem dX4_aboutVillager_72 : decode cX4_aboutVillager 72 = .ok (.invokevirtual 156, 3) := by decide +kernel
theorem dX4_aboutVillager_75 : decode cX4_aboutVillager 75 = .ok (.ireturn, 1) := by decide +kernel
theorem dX4_aboutVillager_76 : decode cX4_aboutVillager 76 = .ok (.aload_n 0, 1) := by decide +kernel
theorem dX4_aboutVillager_77 : decode cX4_aboutVillager 77 = .ok (.getfield 35, 3) := by decide +kernel
theorem dX4_aboutVillager_80 : decode cX4_aboutVillager 80 = .ok (.iload_n 1, 1) := by decide +kernel
theorem dX4_aboutVillager_81 : decode cX4_aboutVillager 81 = .ok (.invokevirtual 159, 3) := by decide +kernel
theorem dX4_aboutVillager_84 : decode cX4_aboutVillager 84 = .ok (.ireturn, 1) := by decide +kernel
theorem dX4_aboutVillager_85 : decode cX4_aboutVillager 85 = .ok (.iconst (-1), 1) := by decide +kernel
theorem dX4_aboutVillager_86 : decode cX4_aboutVillager 86 = .ok (.ireturn, 1) := by decide +kernel
set_option maxRecDepth 20000 in
theorem ggX4_aboutEntry_X4_isEntry : GoodIn wsX4_aboutEntry wsX4_isEntry := goodIn_r _ [11, 12, 51, 52, 53, 54, 55, 56, 57, 58, 59, 60, 61, 62, 63] (by decide +kernel) (by decide +kernel)
set_option maxRecDepth 20000 in
theorem gX4_aboutEntry_X4_isEntry : GoodIn wsX4_aboutEntry (wsV RX4 138 RX4 yX4_isEntry wsX4_isEntry) := goodIn_app (goodIn_of _ (by decide +kernel)) ggX4_aboutEntry_X4_isEntry
set_option maxRecDepth 20000 in
theorem ggX4_aboutEntry_X4_copies : GoodIn wsX4_aboutEntry wsX4_copies := goodIn_r _ [16, 17, 18, 19, 20, 10, 21, 22, 23, 24, 25, 26, 51, 52, 53, 54, 55, 56, 57, 58, 59, 60, 61, 62, 63] (by decide +kernel) (by decide +kernel)
set_option maxRecDepth 20000 in
theorem gX4_aboutEntry_X4_copies : GoodIn wsX4_aboutEntry (wsV RX4 162 RX4 yX4_copies wsX4_copies) := goodIn_app (goodIn_of _ (by decide +kernel)) ggX4_aboutEntry_X4_copies
set_option maxRecDepth 20000 in
theorem ggX4_aboutEntry_X4_holders : GoodIn wsX4_aboutEntry wsX4_holders := goodIn_r _ [30, 31, 32, 33, 34, 35, 36, 37, 38, 39, 40, 41, 42, 43, 44, 45, 18, 19, 20, 10, 21, 22, 23, 24, 25, 26, 17, 46, 47, 48, 49, 50, 64, 65, 51, 52, 53, 54, 55, 56, 57, 58, 59, 60, 61, 62, 63] (by decide +kernel) (by decide +kernel)
set_option maxRecDepth 20000 in
theorem gX4_aboutEntry_X4_holders : GoodIn wsX4_aboutEntry (wsV RX4 165 RX4 yX4_holders wsX4_holders) := goodIn_app (goodIn_of _ (by decide +kernel)) ggX4_aboutEntry_X4_holders
theorem dX4_aboutEntry_0 : decode cX4_aboutEntry 0 = .ok (.aload_n 0, 1) := by decide +kernel
theorem dX4_aboutEntry_1 : decode cX4_aboutEntry 1 = .ok (.iload_n 1, 1) := by decide +kernel
theorem dX4_aboutEntry_2 : decode cX4_aboutEntry 2 = .ok (.invokevirtual 138, 3) := by decide +kernel
theorem dX4_aboutEntry_5 : decode cX4_aboutEntry 5 = .ok (.ifCond .ne 5, 3) := by decide +kernel
theorem dX4_aboutEntry_8 : decode cX4_aboutEntry 8 = .ok (.iconst (-1), 1) := by decide +kernel
theorem dX4_aboutEntry_9 : decode cX4_aboutEntry 9 = .ok (.ireturn, 1) := by decide +kernel
theorem dX4_aboutEntry_10 : decode cX4_aboutEntry 10 = .ok (.iload_n 2, 1) := by decide +kernel
theorem dX4_aboutEntry_11 : decode cX4_aboutEntry 11 = .ok (.tableswitch 104 0 6 #[41, 48, 55, 69, 75, 82, 93], 41) := by decide +kernel
theorem dX4_aboutEntry_52 : decode cX4_aboutEntry 52 = .ok (.aload_n 0, 1) := by decide +kernel
theorem dX4_aboutEntry_53 : decode cX4_aboutEntry 53 = .ok (.getfield 39, 3) := by decide +kernel
theorem dX4_aboutEntry_56 : decode cX4_aboutEntry 56 = .ok (.iload_n 1, 1) := by decide +kernel
theorem dX4_aboutEntry_57 : decode cX4_aboutEntry 57 = .ok (.iaload, 1) := by decide +kernel
theorem dX4_aboutEntry_58 : decode cX4_aboutEntry 58 = .ok (.ireturn, 1) := by decide +kernel
theorem dX4_aboutEntry_59 : decode cX4_aboutEntry 59 = .ok (.aload_n 0, 1) := by decide +kernel
theorem dX4_aboutEntry_60 : decode cX4_aboutEntry 60 = .ok (.getfield 42, 3) := by decide +kernel
theorem dX4_aboutEntry_63 : decode cX4_aboutEntry 63 = .ok (.iload_n 1, 1) := by decide +kernel
theorem dX4_aboutEntry_64 : decode cX4_aboutEntry 64 = .ok (.iaload, 1) := by decide +kernel
theorem dX4_aboutEntry_65 : decode cX4_aboutEntry 65 = .ok (.ireturn, 1) := by decide +kernel
theorem dX4_aboutEntry_66 : decode cX4_aboutEntry 66 = .ok (.iload_n 1, 1) := by decide +kernel
theorem dX4_aboutEntry_67 : decode cX4_aboutEntry 67 = .ok (.aload_n 0, 1) := by decide +kernel
theorem dX4_aboutEntry_68 : decode cX4_aboutEntry 68 = .ok (.getfield 70, 3) := by decide +kernel
theorem dX4_aboutEntry_71 : decode cX4_aboutEntry 71 = .ok (.if_icmp .ge 7, 3) := by decide +kernel
theorem dX4_aboutEntry_74 : decode cX4_aboutEntry 74 = .ok (.iconst 1, 1) := by decide +kernel
theorem dX4_aboutEntry_75 : decode cX4_aboutEntry 75 = .ok (.goto 4, 3) := by decide +kernel
theorem dX4_aboutEntry_78 : decode cX4_aboutEntry 78 = .ok (.iconst 0, 1) := by decide +kernel
theorem dX4_aboutEntry_79 : decode cX4_aboutEntry 79 = .ok (.ireturn, 1) := by decide +kernel
theorem dX4_aboutEntry_80 : decode cX4_aboutEntry 80 = .ok (.aload_n 0, 1) := by decide +kernel
theorem dX4_aboutEntry_81 : decode cX4_aboutEntry 81 = .ok (.iload_n 1, 1) := by decide +kernel
theorem dX4_aboutEntry_82 : decode cX4_aboutEntry 82 = .ok (.invokevirtual 162, 3) := by decide +kernel
theorem dX4_aboutEntry_85 : decode cX4_aboutEntry 85 = .ok (.ireturn, 1) := by decide +kernel
theorem dX4_aboutEntry_86 : decode cX4_aboutEntry 86 = .ok (.aload_n 0, 1) := by decide +kernel
theorem dX4_aboutEntry_87 : decode cX4_aboutEntry 87 = .ok (.getfield 45, 3) := by decide +kernel
theorem dX4_aboutEntry_90 : decode cX4_aboutEntry 90 = .ok (.iload_n 1, 1) := by decide +kernel
theorem dX4_aboutEntry_91 : decode cX4_aboutEntry 91 = .ok (.iaload, 1) := by decide +kernel
theorem dX4_aboutEntry_92 : decode cX4_aboutEntry 92 = .ok (.ireturn, 1) := by decide +kernel
theorem dX4_aboutEntry_93 : decode cX4_aboutEntry 93 = .ok (.aload_n 0, 1) := by decide +kernel
theorem dX4_aboutEntry_94 : decode cX4_aboutEntry 94 = .ok (.aload_n 0, 1) := by decide +kernel
theorem dX4_aboutEntry_95 : decode cX4_aboutEntry 95 = .ok (.getfield 21, 3) := by decide +kernel
theorem dX4_aboutEntry_98 : decode cX4_aboutEntry 98 = .ok (.iload_n 1, 1) := by decide +kernel
theorem dX4_aboutEntry_99 : decode cX4_aboutEntry 99 = .ok (.iconst 0, 1) := by decide +kernel
theorem dX4_aboutEntry_100 : decode cX4_aboutEntry 100 = .ok (.invokevirtual 165, 3) := by decide +kernel
theorem dX4_aboutEntry_103 : decode cX4_aboutEntry 103 = .ok (.ireturn, 1) := by decide +kernel
theorem dX4_aboutEntry_104 : decode cX4_aboutEntry 104 = .ok (.aload_n 0, 1) := by decide +kernel
theorem dX4_aboutEntry_105 : decode cX4_aboutEntry 105 = .ok (.aload_n 0, 1) := by decide +kernel
theorem dX4_aboutEntry_106 : decode cX4_aboutEntry 106 = .ok (.getfield 25, 3) := by decide +kernel
theorem dX4_aboutEntry_109 : decode cX4_aboutEntry 109 = .ok (.iload_n 1, 1) := by decide +kernel
theorem dX4_aboutEntry_110 : decode cX4_aboutEntry 110 = .ok (.iconst 0, 1) := by decide +kernel
theorem dX4_aboutEntry_111 : decode cX4_aboutEntry 111 = .ok (.invokevirtual 165, 3) := by decide +kernel
theorem dX4_aboutEntry_114 : decode cX4_aboutEntry 114 = .ok (.ireturn, 1) := by decide +kernel
theorem dX4_aboutEntry_115 : decode cX4_aboutEntry 115 = .ok (.iconst (-1), 1) := by decide +kernel
theorem dX4_aboutEntry_116 : decode cX4_aboutEntry 116 = .ok (.ireturn, 1) := by decide +kernel
set_option maxRecDepth 20000 in
theorem ggX4_aboutDraw_X2_about : GoodIn wsX4_aboutDraw wsX2_about := goodIn_r _ [6, 7, 8, 9, 10, 11, 12, 13, 14, 5, 15, 16, 30, 31, 32, 33, 34, 35, 36] (by decide +kernel) (by decide +kernel)
set_option maxRecDepth 20000 in
theorem gX4_aboutDraw_X2_about : GoodIn wsX4_aboutDraw (wsV RX4 169 RX2 yX2_about wsX2_about) := goodIn_app (goodIn_of _ (by decide +kernel)) ggX4_aboutDraw_X2_about
theorem dX4_aboutDraw_0 : decode cX4_aboutDraw 0 = .ok (.aload_n 0, 1) := by decide +kernel
theorem dX4_aboutDraw_1 : decode cX4_aboutDraw 1 = .ok (.getfield 35, 3) := by decide +kernel
theorem dX4_aboutDraw_4 : decode cX4_aboutDraw 4 = .ok (.iload_n 1, 1) := by decide +kernel
theorem dX4_aboutDraw_5 : decode cX4_aboutDraw 5 = .ok (.iload_n 2, 1) := by decide +kernel
theorem dX4_aboutDraw_6 : decode cX4_aboutDraw 6 = .ok (.invokevirtual 169, 3) := by decide +kernel
theorem dX4_aboutDraw_9 : decode cX4_aboutDraw 9 = .ok (.ireturn, 1) := by decide +kernel
theorem dX4_isVillager_0 : decode cX4_isVillager 0 = .ok (.iload_n 1, 1) := by decide +kernel
theorem dX4_isVillager_1 : decode cX4_isVillager 1 = .ok (.ifCond .lt 15, 3) := by decide +kernel
theorem dX4_isVillager_4 : decode cX4_isVillager 4 = .ok (.iload_n 1, 1) := by decide +kernel
theorem dX4_isVillager_5 : decode cX4_isVillager 5 = .ok (.aload_n 0, 1) := by decide +kernel
theorem dX4_isVillager_6 : decode cX4_isVillager 6 = .ok (.getfield 48, 3) := by decide +kernel
theorem dX4_isVillager_9 : decode cX4_isVillager 9 = .ok (.if_icmp .ge 7, 3) := by decide +kernel
theorem dX4_isVillager_12 : decode cX4_isVillager 12 = .ok (.iconst 1, 1) := by decide +kernel
theorem dX4_isVillager_13 : decode cX4_isVillager 13 = .ok (.goto 4, 3) := by decide +kernel
theorem dX4_isVillager_16 : decode cX4_isVillager 16 = .ok (.iconst 0, 1) := by decide +kernel
theorem dX4_isVillager_17 : decode cX4_isVillager 17 = .ok (.ireturn, 1) := by decide +kernel
theorem dX4_isEntry_0 : decode cX4_isEntry 0 = .ok (.iload_n 1, 1) := by decide +kernel
theorem dX4_isEntry_1 : decode cX4_isEntry 1 = .ok (.ifCond .lt 15, 3) := by decide +kernel
theorem dX4_isEntry_4 : decode cX4_isEntry 4 = .ok (.iload_n 1, 1) := by decide +kernel
theorem dX4_isEntry_5 : decode cX4_isEntry 5 = .ok (.aload_n 0, 1) := by decide +kernel
theorem dX4_isEntry_6 : decode cX4_isEntry 6 = .ok (.getfield 67, 3) := by decide +kernel
theorem dX4_isEntry_9 : decode cX4_isEntry 9 = .ok (.if_icmp .ge 7, 3) := by decide +kernel
theorem dX4_isEntry_12 : decode cX4_isEntry 12 = .ok (.iconst 1, 1) := by decide +kernel
theorem dX4_isEntry_13 : decode cX4_isEntry 13 = .ok (.goto 4, 3) := by decide +kernel
theorem dX4_isEntry_16 : decode cX4_isEntry 16 = .ok (.iconst 0, 1) := by decide +kernel
theorem dX4_isEntry_17 : decode cX4_isEntry 17 = .ok (.ireturn, 1) := by decide +kernel
theorem dX4_isChanging_0 : decode cX4_isChanging 0 = .ok (.aload_n 0, 1) := by decide +kernel
theorem dX4_isChanging_1 : decode cX4_isChanging 1 = .ok (.getfield 28, 3) := by decide +kernel
theorem dX4_isChanging_4 : decode cX4_isChanging 4 = .ok (.bipush (-9), 2) := by decide +kernel
theorem dX4_isChanging_6 : decode cX4_isChanging 6 = .ok (.if_icmp .eq 7, 3) := by decide +kernel
theorem dX4_isChanging_9 : decode cX4_isChanging 9 = .ok (.iconst 1, 1) := by decide +kernel
theorem dX4_isChanging_10 : decode cX4_isChanging 10 = .ok (.goto 4, 3) := by decide +kernel
theorem dX4_isChanging_13 : decode cX4_isChanging 13 = .ok (.iconst 0, 1) := by decide +kernel
theorem dX4_isChanging_14 : decode cX4_isChanging 14 = .ok (.ireturn, 1) := by decide +kernel
set_option maxRecDepth 20000 in
theorem ggX4_isElder_X0_has : GoodIn wsX4_isElder wsX0_has := goodIn_r _ [7, 8, 9, 10, 6, 11, 12, 13, 27, 28] (by decide +kernel) (by decide +kernel)
set_option maxRecDepth 20000 in
theorem gX4_isElder_X0_has : GoodIn wsX4_isElder (wsV RX4 183 RX0 yX0_has wsX0_has) := goodIn_app (goodIn_of _ (by decide +kernel)) ggX4_isElder_X0_has
theorem dX4_isElder_0 : decode cX4_isElder 0 = .ok (.aload_n 0, 1) := by decide +kernel
theorem dX4_isElder_1 : decode cX4_isElder 1 = .ok (.getfield 21, 3) := by decide +kernel
theorem dX4_isElder_4 : decode cX4_isElder 4 = .ok (.iload_n 1, 1) := by decide +kernel
theorem dX4_isElder_5 : decode cX4_isElder 5 = .ok (.invokevirtual 183, 3) := by decide +kernel
theorem dX4_isElder_8 : decode cX4_isElder 8 = .ok (.ifCond .ne 14, 3) := by decide +kernel
theorem dX4_isElder_11 : decode cX4_isElder 11 = .ok (.aload_n 0, 1) := by decide +kernel
theorem dX4_isElder_12 : decode cX4_isElder 12 = .ok (.getfield 25, 3) := by decide +kernel
theorem dX4_isElder_15 : decode cX4_isElder 15 = .ok (.iload_n 1, 1) := by decide +kernel
theorem dX4_isElder_16 : decode cX4_isElder 16 = .ok (.invokevirtual 183, 3) := by decide +kernel
theorem dX4_isElder_19 : decode cX4_isElder 19 = .ok (.ifCond .eq 7, 3) := by decide +kernel
theorem dX4_isElder_22 : decode cX4_isElder 22 = .ok (.iconst 1, 1) := by decide +kernel
theorem dX4_isElder_23 : decode cX4_isElder 23 = .ok (.goto 4, 3) := by decide +kernel
theorem dX4_isElder_26 : decode cX4_isElder 26 = .ok (.iconst 0, 1) := by decide +kernel
theorem dX4_isElder_27 : decode cX4_isElder 27 = .ok (.ireturn, 1) := by decide +kernel
set_option maxRecDepth 20000 in
theorem ggX4_mayAct_X4_isElder : GoodIn wsX4_mayAct wsX4_isElder := goodIn_r _ [5, 6, 7, 8, 9, 10, 11, 12, 13, 14, 15, 16, 17, 18, 29, 30, 31, 32, 33, 34, 35, 36, 37, 38, 39, 40, 41, 42, 43] (by decide +kernel) (by decide +kernel)
set_option maxRecDepth 20000 in
theorem gX4_mayAct_X4_isElder : GoodIn wsX4_mayAct (wsV RX4 126 RX4 yX4_isElder wsX4_isElder) := goodIn_app (goodIn_of _ (by decide +kernel)) ggX4_mayAct_X4_isElder
set_option maxRecDepth 20000 in
theorem ggX4_mayAct_X4_isPresent : GoodIn wsX4_mayAct wsX4_isPresent := goodIn_r _ [22, 23, 24, 25, 26, 4, 27, 28, 29, 30, 31, 32, 33, 34, 35, 36, 37, 38, 39, 40, 41] (by decide +kernel) (by decide +kernel)
set_option maxRecDepth 20000 in
theorem gX4_mayAct_X4_isPresent : GoodIn wsX4_mayAct (wsV RX4 192 RX4 yX4_isPresent wsX4_isPresent) := goodIn_app (goodIn_of _ (by decide +kernel)) ggX4_mayAct_X4_isPresent
theorem dX4_mayAct_0 : decode cX4_mayAct 0 = .ok (.aload_n 0, 1) := by decide +kernel
theorem dX4_mayAct_1 : decode cX4_mayAct 1 = .ok (.iload_n 1, 1) := by decide +kernel
theorem dX4_mayAct_2 : decode cX4_mayAct 2 = .ok (.invokevirtual 126, 3) := by decide +kernel
theorem dX4_mayAct_5 : decode cX4_mayAct 5 = .ok (.ifCond .eq 15, 3) := by decide +kernel
theorem dX4_mayAct_8 : decode cX4_mayAct 8 = .ok (.aload_n 0, 1) := by decide +kernel
theorem dX4_mayAct_9 : decode cX4_mayAct 9 = .ok (.iload_n 1, 1) := by decide +kernel
theorem dX4_mayAct_10 : decode cX4_mayAct 10 = .ok (.invokevirtual 192, 3) := by decide +kernel
theorem dX4_mayAct_13 : decode cX4_mayAct 13 = .ok (.ifCond .eq 7, 3) := by decide +kernel
theorem dX4_mayAct_16 : decode cX4_mayAct 16 = .ok (.iconst 1, 1) := by decide +kernel
theorem dX4_mayAct_17 : decode cX4_mayAct 17 = .ok (.goto 4, 3) := by decide +kernel
theorem dX4_mayAct_20 : decode cX4_mayAct 20 = .ok (.iconst 0, 1) := by decide +kernel
theorem dX4_mayAct_21 : decode cX4_mayAct 21 = .ok (.ireturn, 1) := by decide +kernel
set_option maxRecDepth 20000 in
theorem ggX4_isPresent_X4_isVillager : GoodIn wsX4_isPresent wsX4_isVillager := goodIn_r _ [6, 7, 8, 9, 10, 11, 12, 13, 14, 15, 16, 17, 18, 19, 20] (by decide +kernel) (by decide +kernel)
set_option maxRecDepth 20000 in
theorem gX4_isPresent_X4_isVillager : GoodIn wsX4_isPresent (wsV RX4 73 RX4 yX4_isVillager wsX4_isVillager) := goodIn_app (goodIn_of _ (by decide +kernel)) ggX4_isPresent_X4_isVillager
theorem dX4_isPresent_0 : decode cX4_isPresent 0 = .ok (.aload_n 0, 1) := by decide +kernel
theorem dX4_isPresent_1 : decode cX4_isPresent 1 = .ok (.iload_n 1, 1) := by decide +kernel
theorem dX4_isPresent_2 : decode cX4_isPresent 2 = .ok (.invokevirtual 73, 3) := by decide +kernel
theorem dX4_isPresent_5 : decode cX4_isPresent 5 = .ok (.ifCond .eq 17, 3) := by decide +kernel
theorem dX4_isPresent_8 : decode cX4_isPresent 8 = .ok (.aload_n 0, 1) := by decide +kernel
theorem dX4_isPresent_9 : decode cX4_isPresent 9 = .ok (.getfield 9, 3) := by decide +kernel
theorem dX4_isPresent_12 : decode cX4_isPresent 12 = .ok (.iload_n 1, 1) := by decide +kernel
theorem dX4_isPresent_13 : decode cX4_isPresent 13 = .ok (.iaload, 1) := by decide +kernel
theorem dX4_isPresent_14 : decode cX4_isPresent 14 = .ok (.iconst 1, 1) := by decide +kernel
theorem dX4_isPresent_15 : decode cX4_isPresent 15 = .ok (.if_icmp .ne 7, 3) := by decide +kernel
theorem dX4_isPresent_18 : decode cX4_isPresent 18 = .ok (.iconst 1, 1) := by decide +kernel
theorem dX4_isPresent_19 : decode cX4_isPresent 19 = .ok (.goto 4, 3) := by decide +kernel
theorem dX4_isPresent_22 : decode cX4_isPresent 22 = .ok (.iconst 0, 1) := by decide +kernel
theorem dX4_isPresent_23 : decode cX4_isPresent 23 = .ok (.ireturn, 1) := by decide +kernel
set_option maxRecDepth 20000 in
theorem ggX4_holds_X4_isVillager : GoodIn wsX4_holds wsX4_isVillager := goodIn_r _ [6, 7, 8, 9, 10, 11, 12, 13, 14, 15, 16, 17, 18, 19, 20] (by decide +kernel) (by decide +kernel)
set_option maxRecDepth 20000 in
theorem gX4_holds_X4_isVillager : GoodIn wsX4_holds (wsV RX4 73 RX4 yX4_isVillager wsX4_isVillager) := goodIn_app (goodIn_of _ (by decide +kernel)) ggX4_holds_X4_isVillager
theorem dX4_holds_0 : decode cX4_holds 0 = .ok (.aload_n 0, 1) := by decide +kernel
theorem dX4_holds_1 : decode cX4_holds 1 = .ok (.iload_n 1, 1) := by decide +kernel
theorem dX4_holds_2 : decode cX4_holds 2 = .ok (.invokevirtual 73, 3) := by decide +kernel
theorem dX4_holds_5 : decode cX4_holds 5 = .ok (.ifCond .eq 17, 3) := by decide +kernel
theorem dX4_holds_8 : decode cX4_holds 8 = .ok (.aload_n 0, 1) := by decide +kernel
theorem dX4_holds_9 : decode cX4_holds 9 = .ok (.getfield 15, 3) := by decide +kernel
theorem dX4_holds_12 : decode cX4_holds 12 = .ok (.iload_n 1, 1) := by decide +kernel
theorem dX4_holds_13 : decode cX4_holds 13 = .ok (.iaload, 1) := by decide +kernel
theorem dX4_holds_14 : decode cX4_holds 14 = .ok (.iload_n 2, 1) := by decide +kernel
theorem dX4_holds_15 : decode cX4_holds 15 = .ok (.if_icmp .le 7, 3) := by decide +kernel
theorem dX4_holds_18 : decode cX4_holds 18 = .ok (.iconst 1, 1) := by decide +kernel
theorem dX4_holds_19 : decode cX4_holds 19 = .ok (.goto 4, 3) := by decide +kernel
theorem dX4_holds_22 : decode cX4_holds 22 = .ok (.iconst 0, 1) := by decide +kernel
theorem dX4_holds_23 : decode cX4_holds 23 = .ok (.ireturn, 1) := by decide +kernel
theorem dX4_presentVillagers_0 : decode cX4_presentVillagers 0 = .ok (.iconst 0, 1) := by decide +kernel
theorem dX4_presentVillagers_1 : decode cX4_presentVillagers 1 = .ok (.istore_n 1, 1) := by decide +kernel
theorem dX4_presentVillagers_2 : decode cX4_presentVillagers 2 = .ok (.iconst 0, 1) := by decide +kernel
theorem dX4_presentVillagers_3 : decode cX4_presentVillagers 3 = .ok (.istore_n 2, 1) := by decide +kernel
theorem dX4_presentVillagers_4 : decode cX4_presentVillagers 4 = .ok (.iload_n 2, 1) := by decide +kernel
theorem dX4_presentVillagers_5 : decode cX4_presentVillagers 5 = .ok (.aload_n 0, 1) := by decide +kernel
theorem dX4_presentVillagers_6 : decode cX4_presentVillagers 6 = .ok (.getfield 48, 3) := by decide +kernel
theorem dX4_presentVillagers_9 : decode cX4_presentVillagers 9 = .ok (.if_icmp .ge 18, 3) := by decide +kernel
theorem dX4_presentVillagers_12 : decode cX4_presentVillagers 12 = .ok (.iload_n 1, 1) := by decide +kernel
theorem dX4_presentVillagers_13 : decode cX4_presentVillagers 13 = .ok (.aload_n 0, 1) := by decide +kernel
theorem dX4_presentVillagers_14 : decode cX4_presentVillagers 14 = .ok (.getfield 9, 3) := by decide +kernel
theorem dX4_presentVillagers_17 : decode cX4_presentVillagers 17 = .ok (.iload_n 2, 1) := by decide +kernel
theorem dX4_presentVillagers_18 : decode cX4_presentVillagers 18 = .ok (.iaload, 1) := by decide +kernel
theorem dX4_presentVillagers_19 : decode cX4_presentVillagers 19 = .ok (.iadd, 1) := by decide +kernel
theorem dX4_presentVillagers_20 : decode cX4_presentVillagers 20 = .ok (.istore_n 1, 1) := by decide +kernel
theorem dX4_presentVillagers_21 : decode cX4_presentVillagers 21 = .ok (.iinc 2 1, 3) := by decide +kernel
theorem dX4_presentVillagers_24 : decode cX4_presentVillagers 24 = .ok (.goto (-20), 3) := by decide +kernel
theorem dX4_presentVillagers_27 : decode cX4_presentVillagers 27 = .ok (.iload_n 1, 1) := by decide +kernel
theorem dX4_presentVillagers_28 : decode cX4_presentVillagers 28 = .ok (.ireturn, 1) := by decide +kernel
set_option maxRecDepth 20000 in
theorem ggX4_copies_X4_holds : GoodIn wsX4_copies wsX4_holds := goodIn_r _ [6, 7, 8, 9, 10, 5, 11, 1, 12, 13, 14, 15, 16, 17, 18, 19, 20, 21, 22, 23, 24] (by decide +kernel) (by decide +kernel)
set_option maxRecDepth 20000 in
theorem gX4_copies_X4_holds : GoodIn wsX4_copies (wsV RX4 195 RX4 yX4_holds wsX4_holds) := goodIn_app (goodIn_of _ (by decide +kernel)) ggX4_copies_X4_holds
theorem dX4_copies_0 : decode cX4_copies 0 = .ok (.iconst 0, 1) := by decide +kernel
theorem dX4_copies_1 : decode cX4_copies 1 = .ok (.istore_n 2, 1) := by decide +kernel
theorem dX4_copies_2 : decode cX4_copies 2 = .ok (.iconst 0, 1) := by decide +kernel
theorem dX4_copies_3 : decode cX4_copies 3 = .ok (.istore_n 3, 1) := by decide +kernel
theorem dX4_copies_4 : decode cX4_copies 4 = .ok (.iload_n 3, 1) := by decide +kernel
theorem dX4_copies_5 : decode cX4_copies 5 = .ok (.aload_n 0, 1) := by decide +kernel
theorem dX4_copies_6 : decode cX4_copies 6 = .ok (.getfield 48, 3) := by decide +kernel
theorem dX4_copies_9 : decode cX4_copies 9 = .ok (.if_icmp .ge 21, 3) := by decide +kernel
theorem dX4_copies_12 : decode cX4_copies 12 = .ok (.aload_n 0, 1) := by decide +kernel
theorem dX4_copies_13 : decode cX4_copies 13 = .ok (.iload_n 3, 1) := by decide +kernel
theorem dX4_copies_14 : decode cX4_copies 14 = .ok (.iload_n 1, 1) := by decide +kernel
theorem dX4_copies_15 : decode cX4_copies 15 = .ok (.invokevirtual 195, 3) := by decide +kernel
theorem dX4_copies_18 : decode cX4_copies 18 = .ok (.ifCond .eq 6, 3) := by decide +kernel
theorem dX4_copies_21 : decode cX4_copies 21 = .ok (.iinc 2 1, 3) := by decide +kernel
theorem dX4_copies_24 : decode cX4_copies 24 = .ok (.iinc 3 1, 3) := by decide +kernel
theorem dX4_copies_27 : decode cX4_copies 27 = .ok (.goto (-23), 3) := by decide +kernel
theorem dX4_copies_30 : decode cX4_copies 30 = .ok (.iload_n 2, 1) := by decide +kernel
theorem dX4_copies_31 : decode cX4_copies 31 = .ok (.ireturn, 1) := by decide +kernel
set_option maxRecDepth 20000 in
theorem ggX4_candidates_X4_candidatesBefore : GoodIn wsX4_candidates wsX4_candidatesBefore := goodIn_r _ [6, 7, 8, 9, 10, 11, 12, 13, 14, 15, 16, 17, 18, 19, 20, 21, 22, 23, 24, 25, 26, 27, 28, 29, 30, 31, 32, 33] (by decide +kernel) (by decide +kernel)
set_option maxRecDepth 20000 in
theorem gX4_candidates_X4_candidatesBefore : GoodIn wsX4_candidates (wsV RX4 186 RX4 yX4_candidatesBefore wsX4_candidatesBefore) := goodIn_app (goodIn_of _ (by decide +kernel)) ggX4_candidates_X4_candidatesBefore
theorem dX4_candidates_0 : decode cX4_candidates 0 = .ok (.aload_n 0, 1) := by decide +kernel
theorem dX4_candidates_1 : decode cX4_candidates 1 = .ok (.aload_n 0, 1) := by decide +kernel
theorem dX4_candidates_2 : decode cX4_candidates 2 = .ok (.getfield 48, 3) := by decide +kernel
theorem dX4_candidates_5 : decode cX4_candidates 5 = .ok (.invokevirtual 186, 3) := by decide +kernel
theorem dX4_candidates_8 : decode cX4_candidates 8 = .ok (.ireturn, 1) := by decide +kernel
set_option maxRecDepth 20000 in
theorem ggX4_candidatesBefore_X0_has : GoodIn wsX4_candidatesBefore wsX0_has := goodIn_r _ [6, 7, 8, 9, 5, 10, 11, 12, 26, 27] (by decide +kernel) (by decide +kernel)
set_option maxRecDepth 20000 in
theorem gX4_candidatesBefore_X0_has : GoodIn wsX4_candidatesBefore (wsV RX4 183 RX0 yX0_has wsX0_has) := goodIn_app (goodIn_of _ (by decide +kernel)) ggX4_candidatesBefore_X0_has
theorem dX4_candidatesBefore_0 : decode cX4_candidatesBefore 0 = .ok (.iconst 0, 1) := by decide +kernel
theorem dX4_candidatesBefore_1 : decode cX4_candidatesBefore 1 = .ok (.istore_n 2, 1) := by decide +kernel
theorem dX4_candidatesBefore_2 : decode cX4_candidatesBefore 2 = .ok (.iconst 0, 1) := by decide +kernel
theorem dX4_candidatesBefore_3 : decode cX4_candidatesBefore 3 = .ok (.istore_n 3, 1) := by decide +kernel
theorem dX4_candidatesBefore_4 : decode cX4_candidatesBefore 4 = .ok (.iload_n 3, 1) := by decide +kernel
theorem dX4_candidatesBefore_5 : decode cX4_candidatesBefore 5 = .ok (.iload_n 1, 1) := by decide +kernel
theorem dX4_candidatesBefore_6 : decode cX4_candidatesBefore 6 = .ok (.if_icmp .ge 23, 3) := by decide +kernel
theorem dX4_candidatesBefore_9 : decode cX4_candidatesBefore 9 = .ok (.aload_n 0, 1) := by decide +kernel
theorem dX4_candidatesBefore_10 : decode cX4_candidatesBefore 10 = .ok (.getfield 21, 3) := by decide +kernel
theorem dX4_candidatesBefore_13 : decode cX4_candidatesBefore 13 = .ok (.iload_n 3, 1) := by decide +kernel
theorem dX4_candidatesBefore_14 : decode cX4_candidatesBefore 14 = .ok (.invokevirtual 183, 3) := by decide +kernel
theorem dX4_candidatesBefore_17 : decode cX4_candidatesBefore 17 = .ok (.ifCond .ne 6, 3) := by decide +kernel
theorem dX4_candidatesBefore_20 : decode cX4_candidatesBefore 20 = .ok (.iinc 2 1, 3) := by decide +kernel
theorem dX4_candidatesBefore_23 : decode cX4_candidatesBefore 23 = .ok (.iinc 3 1, 3) := by decide +kernel
theorem dX4_candidatesBefore_26 : decode cX4_candidatesBefore 26 = .ok (.goto (-22), 3) := by decide +kernel
theorem dX4_candidatesBefore_29 : decode cX4_candidatesBefore 29 = .ok (.iload_n 2, 1) := by decide +kernel
theorem dX4_candidatesBefore_30 : decode cX4_candidatesBefore 30 = .ok (.ireturn, 1) := by decide +kernel
set_option maxRecDepth 20000 in
theorem ggX4_drawnWith_X4_candidates : GoodIn wsX4_drawnWith wsX4_candidates := goodIn_r _ [7, 1, 8, 9, 10, 6, 11, 2, 12, 13, 14, 15, 16, 17, 18, 19, 20, 21, 22, 28, 29, 30, 31, 32, 33, 34, 35, 36, 37, 38, 39, 40, 41, 42] (by decide +kernel) (by decide +kernel)
set_option maxRecDepth 20000 in
theorem gX4_drawnWith_X4_candidates : GoodIn wsX4_drawnWith (wsV RX4 109 RX4 yX4_candidates wsX4_candidates) := goodIn_app (goodIn_of _ (by decide +kernel)) ggX4_drawnWith_X4_candidates
set_option maxRecDepth 20000 in
theorem ggX4_drawnWith_X2_after : GoodIn wsX4_drawnWith wsX2_after := goodIn_r _ [26, 27] (by decide +kernel) (by decide +kernel)
set_option maxRecDepth 20000 in
theorem gX4_drawnWith_X2_after : GoodIn wsX4_drawnWith (va_wsS RX4 189 yX2_after wsX2_after) := goodIn_app (goodIn_of _ (by decide +kernel)) ggX4_drawnWith_X2_after
set_option maxRecDepth 20000 in
theorem ggX4_drawnWith_X0_has : GoodIn wsX4_drawnWith wsX0_has := goodIn_r _ [16, 17, 18, 19, 15, 20, 21, 22, 41, 42] (by decide +kernel) (by decide +kernel)
set_option maxRecDepth 20000 in
theorem gX4_drawnWith_X0_has : GoodIn wsX4_drawnWith (wsV RX4 183 RX0 yX0_has wsX0_has) := goodIn_app (goodIn_of _ (by decide +kernel)) ggX4_drawnWith_X0_has
theorem dX4_drawnWith_0 : decode cX4_drawnWith 0 = .ok (.aload_n 0, 1) := by decide +kernel
theorem dX4_drawnWith_1 : decode cX4_drawnWith 1 = .ok (.invokevirtual 109, 3) := by decide +kernel
theorem dX4_drawnWith_4 : decode cX4_drawnWith 4 = .ok (.istore_n 2, 1) := by decide +kernel
theorem dX4_drawnWith_5 : decode cX4_drawnWith 5 = .ok (.iload_n 2, 1) := by decide +kernel
theorem dX4_drawnWith_6 : decode cX4_drawnWith 6 = .ok (.ifCond .gt 6, 3) := by decide +kernel
theorem dX4_drawnWith_9 : decode cX4_drawnWith 9 = .ok (.bipush (-9), 2) := by decide +kernel
theorem dX4_drawnWith_11 : decode cX4_drawnWith 11 = .ok (.ireturn, 1) := by decide +kernel
theorem dX4_drawnWith_12 : decode cX4_drawnWith 12 = .ok (.iload_n 1, 1) := by decide +kernel
theorem dX4_drawnWith_13 : decode cX4_drawnWith 13 = .ok (.invokestatic 189, 3) := by decide +kernel
theorem dX4_drawnWith_16 : decode cX4_drawnWith 16 = .ok (.iload_n 2, 1) := by decide +kernel
theorem dX4_drawnWith_17 : decode cX4_drawnWith 17 = .ok (.irem, 1) := by decide +kernel
theorem dX4_drawnWith_18 : decode cX4_drawnWith 18 = .ok (.istore_n 3, 1) := by decide +kernel
theorem dX4_drawnWith_19 : decode cX4_drawnWith 19 = .ok (.iconst 0, 1) := by decide +kernel
theorem dX4_drawnWith_20 : decode cX4_drawnWith 20 = .ok (.istore 4, 2) := by decide +kernel
theorem dX4_drawnWith_22 : decode cX4_drawnWith 22 = .ok (.iload 4, 2) := by decide +kernel
theorem dX4_drawnWith_24 : decode cX4_drawnWith 24 = .ok (.aload_n 0, 1) := by decide +kernel
theorem dX4_drawnWith_25 : decode cX4_drawnWith 25 = .ok (.getfield 48, 3) := by decide +kernel
theorem dX4_drawnWith_28 : decode cX4_drawnWith 28 = .ok (.if_icmp .ge 31, 3) := by decide +kernel
theorem dX4_drawnWith_31 : decode cX4_drawnWith 31 = .ok (.aload_n 0, 1) := by decide +kernel
theorem dX4_drawnWith_32 : decode cX4_drawnWith 32 = .ok (.getfield 21, 3) := by decide +kernel
theorem dX4_drawnWith_35 : decode cX4_drawnWith 35 = .ok (.iload 4, 2) := by decide +kernel
theorem dX4_drawnWith_37 : decode cX4_drawnWith 37 = .ok (.invokevirtual 183, 3) := by decide +kernel
theorem dX4_drawnWith_40 : decode cX4_drawnWith 40 = .ok (.ifCond .ne 13, 3) := by decide +kernel
theorem dX4_drawnWith_43 : decode cX4_drawnWith 43 = .ok (.iload_n 3, 1) := by decide +kernel
theorem dX4_drawnWith_44 : decode cX4_drawnWith 44 = .ok (.ifCond .ne 6, 3) := by decide +kernel
theorem dX4_drawnWith_47 : decode cX4_drawnWith 47 = .ok (.iload 4, 2) := by decide +kernel
theorem dX4_drawnWith_49 : decode cX4_drawnWith 49 = .ok (.ireturn, 1) := by decide +kernel
theorem dX4_drawnWith_50 : decode cX4_drawnWith 50 = .ok (.iinc 3 (-1), 3) := by decide +kernel
theorem dX4_drawnWith_53 : decode cX4_drawnWith 53 = .ok (.iinc 4 1, 3) := by decide +kernel
theorem dX4_drawnWith_56 : decode cX4_drawnWith 56 = .ok (.goto (-34), 3) := by decide +kernel
theorem dX4_drawnWith_59 : decode cX4_drawnWith 59 = .ok (.bipush (-9), 2) := by decide +kernel
theorem dX4_drawnWith_61 : decode cX4_drawnWith 61 = .ok (.ireturn, 1) := by decide +kernel
theorem dX4_addEntry_0 : decode cX4_addEntry 0 = .ok (.aload_n 0, 1) := by decide +kernel
theorem dX4_addEntry_1 : decode cX4_addEntry 1 = .ok (.getfield 39, 3) := by decide +kernel
theorem dX4_addEntry_4 : decode cX4_addEntry 4 = .ok (.aload_n 0, 1) := by decide +kernel
theorem dX4_addEntry_5 : decode cX4_addEntry 5 = .ok (.getfield 67, 3) := by decide +kernel
theorem dX4_addEntry_8 : decode cX4_addEntry 8 = .ok (.iload_n 2, 1) := by decide +kernel
theorem dX4_addEntry_9 : decode cX4_addEntry 9 = .ok (.iastore, 1) := by decide +kernel
theorem dX4_addEntry_10 : decode cX4_addEntry 10 = .ok (.aload_n 0, 1) := by decide +kernel
theorem dX4_addEntry_11 : decode cX4_addEntry 11 = .ok (.getfield 42, 3) := by decide +kernel
theorem dX4_addEntry_14 : decode cX4_addEntry 14 = .ok (.aload_n 0, 1) := by decide +kernel
theorem dX4_addEntry_15 : decode cX4_addEntry 15 = .ok (.getfield 67, 3) := by decide +kernel
theorem dX4_addEntry_18 : decode cX4_addEntry 18 = .ok (.aload_n 0, 1) := by decide +kernel
theorem dX4_addEntry_19 : decode cX4_addEntry 19 = .ok (.getfield 61, 3) := by decide +kernel
theorem dX4_addEntry_22 : decode cX4_addEntry 22 = .ok (.iastore, 1) := by decide +kernel
theorem dX4_addEntry_23 : decode cX4_addEntry 23 = .ok (.aload_n 0, 1) := by decide +kernel
theorem dX4_addEntry_24 : decode cX4_addEntry 24 = .ok (.getfield 45, 3) := by decide +kernel
theorem dX4_addEntry_27 : decode cX4_addEntry 27 = .ok (.aload_n 0, 1) := by decide +kernel
theorem dX4_addEntry_28 : decode cX4_addEntry 28 = .ok (.getfield 67, 3) := by decide +kernel
theorem dX4_addEntry_31 : decode cX4_addEntry 31 = .ok (.iload_n 1, 1) := by decide +kernel
theorem dX4_addEntry_32 : decode cX4_addEntry 32 = .ok (.iastore, 1) := by decide +kernel
theorem dX4_addEntry_33 : decode cX4_addEntry 33 = .ok (.aload_n 0, 1) := by decide +kernel
theorem dX4_addEntry_34 : decode cX4_addEntry 34 = .ok (.dup, 1) := by decide +kernel
theorem dX4_addEntry_35 : decode cX4_addEntry 35 = .ok (.getfield 67, 3) := by decide +kernel
theorem dX4_addEntry_38 : decode cX4_addEntry 38 = .ok (.iconst 1, 1) := by decide +kernel
theorem dX4_addEntry_39 : decode cX4_addEntry 39 = .ok (.iadd, 1) := by decide +kernel
theorem dX4_addEntry_40 : decode cX4_addEntry 40 = .ok (.putfield 67, 3) := by decide +kernel
theorem dX4_addEntry_43 : decode cX4_addEntry 43 = .ok (.aload_n 0, 1) := by decide +kernel
theorem dX4_addEntry_44 : decode cX4_addEntry 44 = .ok (.getfield 15, 3) := by decide +kernel
theorem dX4_addEntry_47 : decode cX4_addEntry 47 = .ok (.iload_n 1, 1) := by decide +kernel
theorem dX4_addEntry_48 : decode cX4_addEntry 48 = .ok (.aload_n 0, 1) := by decide +kernel
theorem dX4_addEntry_49 : decode cX4_addEntry 49 = .ok (.getfield 67, 3) := by decide +kernel
theorem dX4_addEntry_52 : decode cX4_addEntry 52 = .ok (.iastore, 1) := by decide +kernel
theorem dX4_addEntry_53 : decode cX4_addEntry 53 = .ok (.return_, 1) := by decide +kernel
set_option maxRecDepth 20000 in
theorem ggX4_agree_X4_isSupported : GoodIn wsX4_agree wsX4_isSupported := goodIn_r _ [8, 9, 10, 11, 12, 13, 7, 14, 15, 16, 17, 18, 19, 20, 21, 22, 23, 24, 25, 26, 27, 28, 29, 30, 31, 32, 33, 34, 35, 36, 37, 38, 39, 40, 41, 42, 43, 44, 45, 46, 47, 48, 49, 50, 51, 52, 3, 53, 54, 55, 56, 70, 71, 72, 73, 74, 75, 76, 77, 78, 79, 80, 81, 82, 83, 84] (by decide +kernel) (by decide +kernel)
set_option maxRecDepth 20000 in
theorem gX4_agree_X4_isSupported : GoodIn wsX4_agree (wsV RX4 179 RX4 yX4_isSupported wsX4_isSupported) := goodIn_app (goodIn_of _ (by decide +kernel)) ggX4_agree_X4_isSupported
set_option maxRecDepth 20000 in
theorem ggX4_agree_X4_endChange : GoodIn wsX4_agree wsX4_endChange := goodIn_r _ [60, 10, 9, 3, 61, 62, 63, 64, 18, 65, 20, 25, 66, 67, 68, 69, 70, 71, 72, 73, 74, 75, 76, 77, 78, 79, 80, 81, 82, 83, 84] (by decide +kernel) (by decide +kernel)
set_option maxRecDepth 20000 in
theorem gX4_agree_X4_endChange : GoodIn wsX4_agree (wsV RX4 199 RX4 yX4_endChange wsX4_endChange) := goodIn_app (goodIn_of _ (by decide +kernel)) ggX4_agree_X4_endChange
theorem dX4_agree_0 : decode cX4_agree 0 = .ok (.aload_n 0, 1) := by decide +kernel
theorem dX4_agree_1 : decode cX4_agree 1 = .ok (.getfield 70, 3) := by decide +kernel
theorem dX4_agree_4 : decode cX4_agree 4 = .ok (.istore_n 1, 1) := by decide +kernel
theorem dX4_agree_5 : decode cX4_agree 5 = .ok (.aload_n 0, 1) := by decide +kernel
theorem dX4_agree_6 : decode cX4_agree 6 = .ok (.getfield 70, 3) := by decide +kernel
theorem dX4_agree_9 : decode cX4_agree 9 = .ok (.aload_n 0, 1) := by decide +kernel
theorem dX4_agree_10 : decode cX4_agree 10 = .ok (.getfield 67, 3) := by decide +kernel
theorem dX4_agree_13 : decode cX4_agree 13 = .ok (.if_icmp .ge 43, 3) := by decide +kernel
theorem dX4_agree_16 : decode cX4_agree 16 = .ok (.aload_n 0, 1) := by decide +kernel
theorem dX4_agree_17 : decode cX4_agree 17 = .ok (.aload_n 0, 1) := by decide +kernel
theorem dX4_agree_18 : decode cX4_agree 18 = .ok (.getfield 70, 3) := by decide +kernel
theorem dX4_agree_21 : decode cX4_agree 21 = .ok (.iconst 0, 1) := by decide +kernel
theorem dX4_agree_22 : decode cX4_agree 22 = .ok (.invokevirtual 179, 3) := by decide +kernel
theorem dX4_agree_25 : decode cX4_agree 25 = .ok (.ifCond .eq 31, 3) := by decide +kernel
theorem dX4_agree_28 : decode cX4_agree 28 = .ok (.aload_n 0, 1) := by decide +kernel
theorem dX4_agree_29 : decode cX4_agree 29 = .ok (.getfield 70, 3) := by decide +kernel
theorem dX4_agree_32 : decode cX4_agree 32 = .ok (.aload_n 0, 1) := by decide +kernel
theorem dX4_agree_33 : decode cX4_agree 33 = .ok (.getfield 28, 3) := by decide +kernel
theorem dX4_agree_36 : decode cX4_agree 36 = .ok (.if_icmp .ne 7, 3) := by decide +kernel
theorem dX4_agree_39 : decode cX4_agree 39 = .ok (.aload_n 0, 1) := by decide +kernel
theorem dX4_agree_40 : decode cX4_agree 40 = .ok (.invokevirtual 199, 3) := by decide +kernel
theorem dX4_agree_43 : decode cX4_agree 43 = .ok (.aload_n 0, 1) := by decide +kernel
theorem dX4_agree_44 : decode cX4_agree 44 = .ok (.dup, 1) := by decide +kernel
theorem dX4_agree_45 : decode cX4_agree 45 = .ok (.getfield 70, 3) := by decide +kernel
theorem dX4_agree_48 : decode cX4_agree 48 = .ok (.iconst 1, 1) := by decide +kernel
theorem dX4_agree_49 : decode cX4_agree 49 = .ok (.iadd, 1) := by decide +kernel
theorem dX4_agree_50 : decode cX4_agree 50 = .ok (.putfield 70, 3) := by decide +kernel
theorem dX4_agree_53 : decode cX4_agree 53 = .ok (.goto (-48), 3) := by decide +kernel
theorem dX4_agree_56 : decode cX4_agree 56 = .ok (.aload_n 0, 1) := by decide +kernel
theorem dX4_agree_57 : decode cX4_agree 57 = .ok (.getfield 70, 3) := by decide +kernel
theorem dX4_agree_60 : decode cX4_agree 60 = .ok (.iload_n 1, 1) := by decide +kernel
theorem dX4_agree_61 : decode cX4_agree 61 = .ok (.isub, 1) := by decide +kernel
theorem dX4_agree_62 : decode cX4_agree 62 = .ok (.ireturn, 1) := by decide +kernel
set_option maxRecDepth 20000 in
theorem ggX4_endChange_X0_copyFrom : GoodIn wsX4_endChange wsX0_copyFrom := goodIn_r _ [9, 10, 11, 12, 13, 14, 15, 29, 30] (by decide +kernel) (by decide +kernel)
set_option maxRecDepth 20000 in
theorem gX4_endChange_X0_copyFrom : GoodIn wsX4_endChange (wsV RX4 57 RX0 yX0_copyFrom wsX0_copyFrom) := goodIn_app (goodIn_of _ (by decide +kernel)) ggX4_endChange_X0_copyFrom
theorem dX4_endChange_0 : decode cX4_endChange 0 = .ok (.aload_n 0, 1) := by decide +kernel
theorem dX4_endChange_1 : decode cX4_endChange 1 = .ok (.getfield 21, 3) := by decide +kernel
theorem dX4_endChange_4 : decode cX4_endChange 4 = .ok (.aload_n 0, 1) := by decide +kernel
theorem dX4_endChange_5 : decode cX4_endChange 5 = .ok (.getfield 25, 3) := by decide +kernel
theorem dX4_endChange_8 : decode cX4_endChange 8 = .ok (.invokevirtual 57, 3) := by decide +kernel
theorem dX4_endChange_11 : decode cX4_endChange 11 = .ok (.aload_n 0, 1) := by decide +kernel
theorem dX4_endChange_12 : decode cX4_endChange 12 = .ok (.bipush (-9), 2) := by decide +kernel
theorem dX4_endChange_14 : decode cX4_endChange 14 = .ok (.putfield 28, 3) := by decide +kernel
theorem dX4_endChange_17 : decode cX4_endChange 17 = .ok (.aload_n 0, 1) := by decide +kernel
theorem dX4_endChange_18 : decode cX4_endChange 18 = .ok (.dup, 1) := by decide +kernel
theorem dX4_endChange_19 : decode cX4_endChange 19 = .ok (.getfield 61, 3) := by decide +kernel
theorem dX4_endChange_22 : decode cX4_endChange 22 = .ok (.iconst 1, 1) := by decide +kernel
theorem dX4_endChange_23 : decode cX4_endChange 23 = .ok (.iadd, 1) := by decide +kernel
theorem dX4_endChange_24 : decode cX4_endChange 24 = .ok (.putfield 61, 3) := by decide +kernel
theorem dX4_endChange_27 : decode cX4_endChange 27 = .ok (.return_, 1) := by decide +kernel
set_option maxRecDepth 20000 in
theorem ggX4_oldCounts_X4_isChanging : GoodIn wsX4_oldCounts wsX4_isChanging := goodIn_r _ [6, 1, 7, 8, 9, 10, 11, 12, 13, 14, 15, 16, 17, 18, 19] (by decide +kernel) (by decide +kernel)
set_option maxRecDepth 20000 in
theorem gX4_oldCounts_X4_isChanging : GoodIn wsX4_oldCounts (wsV RX4 103 RX4 yX4_isChanging wsX4_isChanging) := goodIn_app (goodIn_of _ (by decide +kernel)) ggX4_oldCounts_X4_isChanging
theorem dX4_oldCounts_0 : decode cX4_oldCounts 0 = .ok (.aload_n 0, 1) := by decide +kernel
theorem dX4_oldCounts_1 : decode cX4_oldCounts 1 = .ok (.invokevirtual 103, 3) := by decide +kernel
theorem dX4_oldCounts_4 : decode cX4_oldCounts 4 = .ok (.ifCond .eq 15, 3) := by decide +kernel
theorem dX4_oldCounts_7 : decode cX4_oldCounts 7 = .ok (.iload_n 1, 1) := by decide +kernel
theorem dX4_oldCounts_8 : decode cX4_oldCounts 8 = .ok (.aload_n 0, 1) := by decide +kernel
theorem dX4_oldCounts_9 : decode cX4_oldCounts 9 = .ok (.getfield 28, 3) := by decide +kernel
theorem dX4_oldCounts_12 : decode cX4_oldCounts 12 = .ok (.if_icmp .gt 7, 3) := by decide +kernel
theorem dX4_oldCounts_15 : decode cX4_oldCounts 15 = .ok (.iconst 1, 1) := by decide +kernel
theorem dX4_oldCounts_16 : decode cX4_oldCounts 16 = .ok (.goto 4, 3) := by decide +kernel
theorem dX4_oldCounts_19 : decode cX4_oldCounts 19 = .ok (.iconst 0, 1) := by decide +kernel
theorem dX4_oldCounts_20 : decode cX4_oldCounts 20 = .ok (.ireturn, 1) := by decide +kernel
set_option maxRecDepth 20000 in
theorem ggX4_isSupported_X4_holders : GoodIn wsX4_isSupported wsX4_holders := goodIn_r _ [7, 8, 9, 10, 11, 12, 13, 14, 15, 16, 17, 18, 19, 20, 21, 22, 23, 24, 25, 6, 26, 27, 28, 29, 30, 31, 32, 33, 34, 35, 36, 37, 64, 65, 51, 52, 53, 54, 55, 56, 57, 58, 59, 60, 61, 62, 63] (by decide +kernel) (by decide +kernel)
set_option maxRecDepth 20000 in
theorem gX4_isSupported_X4_holders : GoodIn wsX4_isSupported (wsV RX4 165 RX4 yX4_holders wsX4_holders) := goodIn_app (goodIn_of _ (by decide +kernel)) ggX4_isSupported_X4_holders
set_option maxRecDepth 20000 in
theorem ggX4_isSupported_X0_majority : GoodIn wsX4_isSupported wsX0_majority := goodIn_r _ [41, 13, 64, 65] (by decide +kernel) (by decide +kernel)
set_option maxRecDepth 20000 in
theorem gX4_isSupported_X0_majority : GoodIn wsX4_isSupported (wsV RX4 202 RX0 yX0_majority wsX0_majority) := goodIn_app (goodIn_of _ (by decide +kernel)) ggX4_isSupported_X0_majority
set_option maxRecDepth 20000 in
theorem ggX4_isSupported_X4_oldCounts : GoodIn wsX4_isSupported wsX4_oldCounts := goodIn_r _ [45, 46, 47, 48, 49, 6, 50, 51, 52, 53, 54, 55, 56, 57, 58, 59, 60, 61, 62, 63] (by decide +kernel) (by decide +kernel)
set_option maxRecDepth 20000 in
theorem gX4_isSupported_X4_oldCounts : GoodIn wsX4_isSupported (wsV RX4 172 RX4 yX4_oldCounts wsX4_oldCounts) := goodIn_app (goodIn_of _ (by decide +kernel)) ggX4_isSupported_X4_oldCounts
theorem dX4_isSupported_0 : decode cX4_isSupported 0 = .ok (.aload_n 0, 1) := by decide +kernel
theorem dX4_isSupported_1 : decode cX4_isSupported 1 = .ok (.aload_n 0, 1) := by decide +kernel
theorem dX4_isSupported_2 : decode cX4_isSupported 2 = .ok (.getfield 25, 3) := by decide +kernel
theorem dX4_isSupported_5 : decode cX4_isSupported 5 = .ok (.iload_n 1, 1) := by decide +kernel
theorem dX4_isSupported_6 : decode cX4_isSupported 6 = .ok (.iload_n 2, 1) := by decide +kernel
theorem dX4_isSupported_7 : decode cX4_isSupported 7 = .ok (.invokevirtual 165, 3) := by decide +kernel
theorem dX4_isSupported_10 : decode cX4_isSupported 10 = .ok (.aload_n 0, 1) := by decide +kernel
theorem dX4_isSupported_11 : decode cX4_isSupported 11 = .ok (.getfield 25, 3) := by decide +kernel
theorem dX4_isSupported_14 : decode cX4_isSupported 14 = .ok (.invokevirtual 202, 3) := by decide +kernel
theorem dX4_isSupported_17 : decode cX4_isSupported 17 = .ok (.if_icmp .ge 5, 3) := by decide +kernel
theorem dX4_isSupported_20 : decode cX4_isSupported 20 = .ok (.iconst 0, 1) := by decide +kernel
theorem dX4_isSupported_21 : decode cX4_isSupported 21 = .ok (.ireturn, 1) := by decide +kernel
theorem dX4_isSupported_22 : decode cX4_isSupported 22 = .ok (.aload_n 0, 1) := by decide +kernel
theorem dX4_isSupported_23 : decode cX4_isSupported 23 = .ok (.iload_n 1, 1) := by decide +kernel
theorem dX4_isSupported_24 : decode cX4_isSupported 24 = .ok (.invokevirtual 172, 3) := by decide +kernel
theorem dX4_isSupported_27 : decode cX4_isSupported 27 = .ok (.ifCond .eq 23, 3) := by decide +kernel
theorem dX4_isSupported_30 : decode cX4_isSupported 30 = .ok (.aload_n 0, 1) := by decide +kernel
theorem dX4_isSupported_31 : decode cX4_isSupported 31 = .ok (.aload_n 0, 1) := by decide +kernel
theorem dX4_isSupported_32 : decode cX4_isSupported 32 = .ok (.getfield 21, 3) := by decide +kernel
theorem dX4_isSupported_35 : decode cX4_isSupported 35 = .ok (.iload_n 1, 1) := by decide +kernel
theorem dX4_isSupported_36 : decode cX4_isSupported 36 = .ok (.iload_n 2, 1) := by decide +kernel
theorem dX4_isSupported_37 : decode cX4_isSupported 37 = .ok (.invokevirtual 165, 3) := by decide +kernel
theorem dX4_isSupported_40 : decode cX4_isSupported 40 = .ok (.aload_n 0, 1) := by decide +kernel
theorem dX4_isSupported_41 : decode cX4_isSupported 41 = .ok (.getfield 21, 3) := by decide +kernel
theorem dX4_isSupported_44 : decode cX4_isSupported 44 = .ok (.invokevirtual 202, 3) := by decide +kernel
theorem dX4_isSupported_47 : decode cX4_isSupported 47 = .ok (.if_icmp .lt 7, 3) := by decide +kernel
theorem dX4_isSupported_50 : decode cX4_isSupported 50 = .ok (.iconst 1, 1) := by decide +kernel
theorem dX4_isSupported_51 : decode cX4_isSupported 51 = .ok (.goto 4, 3) := by decide +kernel
theorem dX4_isSupported_54 : decode cX4_isSupported 54 = .ok (.iconst 0, 1) := by decide +kernel
theorem dX4_isSupported_55 : decode cX4_isSupported 55 = .ok (.ireturn, 1) := by decide +kernel
set_option maxRecDepth 20000 in
theorem ggX4_holders_X0_size : GoodIn wsX4_holders wsX0_size := goodIn_r _ [5, 6, 32, 33] (by decide +kernel) (by decide +kernel)
set_option maxRecDepth 20000 in
theorem gX4_holders_X0_size : GoodIn wsX4_holders (wsV RX4 147 RX0 yX0_size wsX0_size) := goodIn_app (goodIn_of _ (by decide +kernel)) ggX4_holders_X0_size
set_option maxRecDepth 20000 in
theorem ggX4_holders_X0_elderOn : GoodIn wsX4_holders wsX0_elderOn := goodIn_r _ [10, 11, 12, 13, 14, 4, 15, 6, 32, 33] (by decide +kernel) (by decide +kernel)
set_option maxRecDepth 20000 in
theorem gX4_holders_X0_elderOn : GoodIn wsX4_holders (wsV RX4 132 RX0 yX0_elderOn wsX0_elderOn) := goodIn_app (goodIn_of _ (by decide +kernel)) ggX4_holders_X0_elderOn
set_option maxRecDepth 20000 in
theorem ggX4_holders_X4_holds : GoodIn wsX4_holders wsX4_holds := goodIn_r _ [20, 21, 22, 23, 24, 19, 25, 26, 34, 35, 36, 37, 38, 39, 40, 41, 42, 43, 44, 45, 46] (by decide +kernel) (by decide +kernel)
set_option maxRecDepth 20000 in
theorem gX4_holders_X4_holds : GoodIn wsX4_holders (wsV RX4 195 RX4 yX4_holds wsX4_holds) := goodIn_app (goodIn_of _ (by decide +kernel)) ggX4_holders_X4_holds
set_option maxRecDepth 20000 in
theorem ggX4_holders_X4_isPresent : GoodIn wsX4_holders wsX4_isPresent := goodIn_r _ [30, 31, 22, 23, 24, 19, 25, 26, 34, 35, 36, 37, 38, 39, 40, 41, 42, 43, 44, 45, 46] (by decide +kernel) (by decide +kernel)
set_option maxRecDepth 20000 in
theorem gX4_holders_X4_isPresent : GoodIn wsX4_holders (wsV RX4 192 RX4 yX4_isPresent wsX4_isPresent) := goodIn_app (goodIn_of _ (by decide +kernel)) ggX4_holders_X4_isPresent
theorem dX4_holders_0 : decode cX4_holders 0 = .ok (.iconst 0, 1) := by decide +kernel
theorem dX4_holders_1 : decode cX4_holders 1 = .ok (.istore 4, 2) := by decide +kernel
theorem dX4_holders_3 : decode cX4_holders 3 = .ok (.iconst 0, 1) := by decide +kernel
theorem dX4_holders_4 : decode cX4_holders 4 = .ok (.istore 5, 2) := by decide +kernel
theorem dX4_holders_6 : decode cX4_holders 6 = .ok (.iload 5, 2) := by decide +kernel
theorem dX4_holders_8 : decode cX4_holders 8 = .ok (.aload_n 1, 1) := by decide +kernel
theorem dX4_holders_9 : decode cX4_holders 9 = .ok (.invokevirtual 147, 3) := by decide +kernel
theorem dX4_holders_12 : decode cX4_holders 12 = .ok (.if_icmp .ge 43, 3) := by decide +kernel
theorem dX4_holders_15 : decode cX4_holders 15 = .ok (.aload_n 1, 1) := by decide +kernel
theorem dX4_holders_16 : decode cX4_holders 16 = .ok (.iload 5, 2) := by decide +kernel
theorem dX4_holders_18 : decode cX4_holders 18 = .ok (.invokevirtual 132, 3) := by decide +kernel
theorem dX4_holders_21 : decode cX4_holders 21 = .ok (.istore 6, 2) := by decide +kernel
theorem dX4_holders_23 : decode cX4_holders 23 = .ok (.aload_n 0, 1) := by decide +kernel
theorem dX4_holders_24 : decode cX4_holders 24 = .ok (.iload 6, 2) := by decide +kernel
theorem dX4_holders_26 : decode cX4_holders 26 = .ok (.iload_n 2, 1) := by decide +kernel
theorem dX4_holders_27 : decode cX4_holders 27 = .ok (.invokevirtual 195, 3) := by decide +kernel
theorem dX4_holders_30 : decode cX4_holders 30 = .ok (.ifCond .ne 16, 3) := by decide +kernel
theorem dX4_holders_33 : decode cX4_holders 33 = .ok (.iload_n 3, 1) := by decide +kernel
theorem dX4_holders_34 : decode cX4_holders 34 = .ok (.ifCond .eq 15, 3) := by decide +kernel
theorem dX4_holders_37 : decode cX4_holders 37 = .ok (.aload_n 0, 1) := by decide +kernel
theorem dX4_holders_38 : decode cX4_holders 38 = .ok (.iload 6, 2) := by decide +kernel
theorem dX4_holders_40 : decode cX4_holders 40 = .ok (.invokevirtual 192, 3) := by decide +kernel
theorem dX4_holders_43 : decode cX4_holders 43 = .ok (.ifCond .eq 6, 3) := by decide +kernel
theorem dX4_holders_46 : decode cX4_holders 46 = .ok (.iinc 4 1, 3) := by decide +kernel
theorem dX4_holders_49 : decode cX4_holders 49 = .ok (.iinc 5 1, 3) := by decide +kernel
theorem dX4_holders_52 : decode cX4_holders 52 = .ok (.goto (-46), 3) := by decide +kernel
theorem dX4_holders_55 : decode cX4_holders 55 = .ok (.iload 4, 2) := by decide +kernel
theorem dX4_holders_57 : decode cX4_holders 57 = .ok (.ireturn, 1) := by decide +kernel

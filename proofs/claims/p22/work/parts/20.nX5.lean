set_option maxRecDepth 20000 in
theorem ggX5_init_X4_init : GoodIn wsX5_init wsX4_init := goodIn_r _ [19, 20, 2, 3] (by decide +kernel) (by decide +kernel)
set_option maxRecDepth 20000 in
theorem gX5_init_X4_init_n11 : GoodIn wsX5_init (wsX4_init) := ggX5_init_X4_init
set_option maxRecDepth 20000 in
theorem ggX5_init_X1_init : GoodIn wsX5_init wsX1_init := goodIn_r _ [23, 24, 2, 3, 25, 26, 27, 28, 29, 30, 31, 60, 61] (by decide +kernel) (by decide +kernel)
set_option maxRecDepth 20000 in
theorem gX5_init_X1_init : GoodIn wsX5_init (wsX1_init) := ggX5_init_X1_init
set_option maxRecDepth 20000 in
theorem ggX5_init_X3_init : GoodIn wsX5_init wsX3_init := goodIn_r _ [34, 35, 2, 3, 36, 37, 26, 38, 39, 62, 63, 64, 65] (by decide +kernel) (by decide +kernel)
set_option maxRecDepth 20000 in
theorem gX5_init_X3_init : GoodIn wsX5_init (wsX3_init) := ggX5_init_X3_init
theorem dX5_init_0 : decode cX5_init 0 = .ok (.aload_n 0, 1) := by decide +kernel
theorem dX5_init_1 : decode cX5_init 1 = .ok (.invokespecial 3, 3) := by decide +kernel
theorem dX5_init_4 : decode cX5_init 4 = .ok (.aload_n 0, 1) := by decide +kernel
theorem dX5_init_5 : decode cX5_init 5 = .ok (.new 9, 3) := by decide +kernel
theorem dX5_init_8 : decode cX5_init 8 = .ok (.dup, 1) := by decide +kernel
theorem dX5_init_9 : decode cX5_init 9 = .ok (.invokespecial 11, 3) := by decide +kernel
theorem dX5_init_12 : decode cX5_init 12 = .ok (.putfield 12, 3) := by decide +kernel
theorem dX5_init_15 : decode cX5_init 15 = .ok (.aload_n 0, 1) := by decide +kernel
theorem dX5_init_16 : decode cX5_init 16 = .ok (.new 9, 3) := by decide +kernel
theorem dX5_init_19 : decode cX5_init 19 = .ok (.dup, 1) := by decide +kernel
theorem dX5_init_20 : decode cX5_init 20 = .ok (.invokespecial 11, 3) := by decide +kernel
theorem dX5_init_23 : decode cX5_init 23 = .ok (.putfield 18, 3) := by decide +kernel
theorem dX5_init_26 : decode cX5_init 26 = .ok (.aload_n 0, 1) := by decide +kernel
theorem dX5_init_27 : decode cX5_init 27 = .ok (.new 21, 3) := by decide +kernel
theorem dX5_init_30 : decode cX5_init 30 = .ok (.dup, 1) := by decide +kernel
theorem dX5_init_31 : decode cX5_init 31 = .ok (.bipush 6, 2) := by decide +kernel
theorem dX5_init_33 : decode cX5_init 33 = .ok (.iconst 4, 1) := by decide +kernel
theorem dX5_init_34 : decode cX5_init 34 = .ok (.invokespecial 23, 3) := by decide +kernel
theorem dX5_init_37 : decode cX5_init 37 = .ok (.putfield 26, 3) := by decide +kernel
theorem dX5_init_40 : decode cX5_init 40 = .ok (.aload_n 0, 1) := by decide +kernel
theorem dX5_init_41 : decode cX5_init 41 = .ok (.new 30, 3) := by decide +kernel
theorem dX5_init_44 : decode cX5_init 44 = .ok (.dup, 1) := by decide +kernel
theorem dX5_init_45 : decode cX5_init 45 = .ok (.invokespecial 32, 3) := by decide +kernel
theorem dX5_init_48 : decode cX5_init 48 = .ok (.putfield 33, 3) := by decide +kernel
theorem dX5_init_51 : decode cX5_init 51 = .ok (.aload_n 0, 1) := by decide +kernel
theorem dX5_init_52 : decode cX5_init 52 = .ok (.iconst 2, 1) := by decide +kernel
theorem dX5_init_53 : decode cX5_init 53 = .ok (.putfield 37, 3) := by decide +kernel
theorem dX5_init_56 : decode cX5_init 56 = .ok (.return_, 1) := by decide +kernel
set_option maxRecDepth 20000 in
theorem ggX5_copyFrom_X4_copyFrom : GoodIn wsX5_copyFrom wsX4_copyFrom := goodIn_r _ [18, 19, 20, 21, 22, 23, 24, 25, 58, 59, 60, 61, 62, 63, 64] (by decide +kernel) (by decide +kernel)
set_option maxRecDepth 20000 in
theorem gX5_copyFrom_X4_copyFrom : GoodIn wsX5_copyFrom (wsV RX5 41 RX4 yX4_copyFrom wsX4_copyFrom) := goodIn_app (goodIn_of _ (by decide +kernel)) ggX5_copyFrom_X4_copyFrom
set_option maxRecDepth 20000 in
theorem ggX5_copyFrom_X1_copyFrom : GoodIn wsX5_copyFrom wsX1_copyFrom := goodIn_r _ [30, 31, 32, 33, 34, 35, 65, 66] (by decide +kernel) (by decide +kernel)
set_option maxRecDepth 20000 in
theorem gX5_copyFrom_X1_copyFrom : GoodIn wsX5_copyFrom (wsV RX5 45 RX1 yX1_copyFrom wsX1_copyFrom) := goodIn_app (goodIn_of _ (by decide +kernel)) ggX5_copyFrom_X1_copyFrom
set_option maxRecDepth 20000 in
theorem ggX5_copyFrom_X3_copyFrom : GoodIn wsX5_copyFrom wsX3_copyFrom := goodIn_r _ [40, 41, 42, 43, 44, 67, 68, 69, 70] (by decide +kernel) (by decide +kernel)
set_option maxRecDepth 20000 in
theorem gX5_copyFrom_X3_copyFrom : GoodIn wsX5_copyFrom (wsV RX5 48 RX3 yX3_copyFrom wsX3_copyFrom) := goodIn_app (goodIn_of _ (by decide +kernel)) ggX5_copyFrom_X3_copyFrom
theorem dX5_copyFrom_0 : decode cX5_copyFrom 0 = .ok (.aload_n 0, 1) := by decide +kernel
theorem dX5_copyFrom_1 : decode cX5_copyFrom 1 = .ok (.getfield 12, 3) := by decide +kernel
theorem dX5_copyFrom_4 : decode cX5_copyFrom 4 = .ok (.aload_n 1, 1) := by decide +kernel
theorem dX5_copyFrom_5 : decode cX5_copyFrom 5 = .ok (.getfield 12, 3) := by decide +kernel
theorem dX5_copyFrom_8 : decode cX5_copyFrom 8 = .ok (.invokevirtual 41, 3) := by decide +kernel
theorem dX5_copyFrom_11 : decode cX5_copyFrom 11 = .ok (.aload_n 0, 1) := by decide +kernel
theorem dX5_copyFrom_12 : decode cX5_copyFrom 12 = .ok (.getfield 18, 3) := by decide +kernel
theorem dX5_copyFrom_15 : decode cX5_copyFrom 15 = .ok (.aload_n 1, 1) := by decide +kernel
theorem dX5_copyFrom_16 : decode cX5_copyFrom 16 = .ok (.getfield 18, 3) := by decide +kernel
theorem dX5_copyFrom_19 : decode cX5_copyFrom 19 = .ok (.invokevirtual 41, 3) := by decide +kernel
theorem dX5_copyFrom_22 : decode cX5_copyFrom 22 = .ok (.aload_n 0, 1) := by decide +kernel
theorem dX5_copyFrom_23 : decode cX5_copyFrom 23 = .ok (.getfield 26, 3) := by decide +kernel
theorem dX5_copyFrom_26 : decode cX5_copyFrom 26 = .ok (.aload_n 1, 1) := by decide +kernel
theorem dX5_copyFrom_27 : decode cX5_copyFrom 27 = .ok (.getfield 26, 3) := by decide +kernel
theorem dX5_copyFrom_30 : decode cX5_copyFrom 30 = .ok (.invokevirtual 45, 3) := by decide +kernel
theorem dX5_copyFrom_33 : decode cX5_copyFrom 33 = .ok (.aload_n 0, 1) := by decide +kernel
theorem dX5_copyFrom_34 : decode cX5_copyFrom 34 = .ok (.getfield 33, 3) := by decide +kernel
theorem dX5_copyFrom_37 : decode cX5_copyFrom 37 = .ok (.aload_n 1, 1) := by decide +kernel
theorem dX5_copyFrom_38 : decode cX5_copyFrom 38 = .ok (.getfield 33, 3) := by decide +kernel
theorem dX5_copyFrom_41 : decode cX5_copyFrom 41 = .ok (.invokevirtual 48, 3) := by decide +kernel
theorem dX5_copyFrom_44 : decode cX5_copyFrom 44 = .ok (.aload_n 0, 1) := by decide +kernel
theorem dX5_copyFrom_45 : decode cX5_copyFrom 45 = .ok (.aload_n 1, 1) := by decide +kernel
theorem dX5_copyFrom_46 : decode cX5_copyFrom 46 = .ok (.getfield 51, 3) := by decide +kernel
theorem dX5_copyFrom_49 : decode cX5_copyFrom 49 = .ok (.putfield 51, 3) := by decide +kernel
theorem dX5_copyFrom_52 : decode cX5_copyFrom 52 = .ok (.aload_n 0, 1) := by decide +kernel
theorem dX5_copyFrom_53 : decode cX5_copyFrom 53 = .ok (.aload_n 1, 1) := by decide +kernel
theorem dX5_copyFrom_54 : decode cX5_copyFrom 54 = .ok (.getfield 54, 3) := by decide +kernel
theorem dX5_copyFrom_57 : decode cX5_copyFrom 57 = .ok (.putfield 54, 3) := by decide +kernel
theorem dX5_copyFrom_60 : decode cX5_copyFrom 60 = .ok (.aload_n 0, 1) := by decide +kernel
theorem dX5_copyFrom_61 : decode cX5_copyFrom 61 = .ok (.aload_n 1, 1) := by decide +kernel
theorem dX5_copyFrom_62 : decode cX5_copyFrom 62 = .ok (.getfield 57, 3) := by decide +kernel
theorem dX5_copyFrom_65 : decode cX5_copyFrom 65 = .ok (.putfield 57, 3) := by decide +kernel
theorem dX5_copyFrom_68 : decode cX5_copyFrom 68 = .ok (.aload_n 0, 1) := by decide +kernel
theorem dX5_copyFrom_69 : decode cX5_copyFrom 69 = .ok (.aload_n 1, 1) := by decide +kernel
theorem dX5_copyFrom_70 : decode cX5_copyFrom 70 = .ok (.getfield 61, 3) := by decide +kernel
theorem dX5_copyFrom_73 : decode cX5_copyFrom 73 = .ok (.putfield 61, 3) := by decide +kernel
theorem dX5_copyFrom_76 : decode cX5_copyFrom 76 = .ok (.aload_n 0, 1) := by decide +kernel
theorem dX5_copyFrom_77 : decode cX5_copyFrom 77 = .ok (.aload_n 1, 1) := by decide +kernel
theorem dX5_copyFrom_78 : decode cX5_copyFrom 78 = .ok (.getfield 64, 3) := by decide +kernel
theorem dX5_copyFrom_81 : decode cX5_copyFrom 81 = .ok (.putfield 64, 3) := by decide +kernel
theorem dX5_copyFrom_84 : decode cX5_copyFrom 84 = .ok (.aload_n 0, 1) := by decide +kernel
theorem dX5_copyFrom_85 : decode cX5_copyFrom 85 = .ok (.aload_n 1, 1) := by decide +kernel
theorem dX5_copyFrom_86 : decode cX5_copyFrom 86 = .ok (.getfield 37, 3) := by decide +kernel
theorem dX5_copyFrom_89 : decode cX5_copyFrom 89 = .ok (.putfield 37, 3) := by decide +kernel
theorem dX5_copyFrom_92 : decode cX5_copyFrom 92 = .ok (.aload_n 0, 1) := by decide +kernel
theorem dX5_copyFrom_93 : decode cX5_copyFrom 93 = .ok (.aload_n 1, 1) := by decide +kernel
theorem dX5_copyFrom_94 : decode cX5_copyFrom 94 = .ok (.getfield 67, 3) := by decide +kernel
theorem dX5_copyFrom_97 : decode cX5_copyFrom 97 = .ok (.putfield 67, 3) := by decide +kernel
theorem dX5_copyFrom_100 : decode cX5_copyFrom 100 = .ok (.aload_n 0, 1) := by decide +kernel
theorem dX5_copyFrom_101 : decode cX5_copyFrom 101 = .ok (.aload_n 1, 1) := by decide +kernel
theorem dX5_copyFrom_102 : decode cX5_copyFrom 102 = .ok (.getfield 70, 3) := by decide +kernel
theorem dX5_copyFrom_105 : decode cX5_copyFrom 105 = .ok (.putfield 70, 3) := by decide +kernel
theorem dX5_copyFrom_108 : decode cX5_copyFrom 108 = .ok (.aload_n 0, 1) := by decide +kernel
theorem dX5_copyFrom_109 : decode cX5_copyFrom 109 = .ok (.aload_n 1, 1) := by decide +kernel
theorem dX5_copyFrom_110 : decode cX5_copyFrom 110 = .ok (.getfield 73, 3) := by decide +kernel
theorem dX5_copyFrom_113 : decode cX5_copyFrom 113 = .ok (.putfield 73, 3) := by decide +kernel
theorem dX5_copyFrom_116 : decode cX5_copyFrom 116 = .ok (.return_, 1) := by decide +kernel
theorem dX5_size_0 : decode cX5_size 0 = .ok (.aload_n 0, 1) := by decide +kernel
theorem dX5_size_1 : decode cX5_size 1 = .ok (.getfield 51, 3) := by decide +kernel
theorem dX5_size_4 : decode cX5_size 4 = .ok (.invokestatic 77, 3) := by decide +kernel
theorem dX5_size_7 : decode cX5_size 7 = .ok (.ireturn, 1) := by decide +kernel
theorem dX5_switchings_0 : decode cX5_switchings 0 = .ok (.aload_n 0, 1) := by decide +kernel
theorem dX5_switchings_1 : decode cX5_switchings 1 = .ok (.getfield 12, 3) := by decide +kernel
theorem dX5_switchings_4 : decode cX5_switchings 4 = .ok (.getfield 83, 3) := by decide +kernel
theorem dX5_switchings_7 : decode cX5_switchings 7 = .ok (.aload_n 0, 1) := by decide +kernel
theorem dX5_switchings_8 : decode cX5_switchings 8 = .ok (.getfield 18, 3) := by decide +kernel
theorem dX5_switchings_11 : decode cX5_switchings 11 = .ok (.getfield 83, 3) := by decide +kernel
theorem dX5_switchings_14 : decode cX5_switchings 14 = .ok (.iadd, 1) := by decide +kernel
theorem dX5_switchings_15 : decode cX5_switchings 15 = .ok (.ireturn, 1) := by decide +kernel
theorem dX5_turnChopper_0 : decode cX5_turnChopper 0 = .ok (.aload_n 0, 1) := by decide +kernel
theorem dX5_turnChopper_1 : decode cX5_turnChopper 1 = .ok (.getfield 57, 3) := by decide +kernel
theorem dX5_turnChopper_4 : decode cX5_turnChopper 4 = .ok (.istore_n 2, 1) := by decide +kernel
theorem dX5_turnChopper_5 : decode cX5_turnChopper 5 = .ok (.aload_n 0, 1) := by decide +kernel
theorem dX5_turnChopper_6 : decode cX5_turnChopper 6 = .ok (.iload_n 1, 1) := by decide +kernel
theorem dX5_turnChopper_7 : decode cX5_turnChopper 7 = .ok (.putfield 57, 3) := by decide +kernel
theorem dX5_turnChopper_10 : decode cX5_turnChopper 10 = .ok (.aload_n 0, 1) := by decide +kernel
theorem dX5_turnChopper_11 : decode cX5_turnChopper 11 = .ok (.aload_n 0, 1) := by decide +kernel
theorem dX5_turnChopper_12 : decode cX5_turnChopper 12 = .ok (.getfield 61, 3) := by decide +kernel
theorem dX5_turnChopper_15 : decode cX5_turnChopper 15 = .ok (.ifCond .eq 11, 3) := by decide +kernel
theorem dX5_turnChopper_18 : decode cX5_turnChopper 18 = .ok (.iload_n 1, 1) := by decide +kernel
theorem dX5_turnChopper_19 : decode cX5_turnChopper 19 = .ok (.ifCond .eq 7, 3) := by decide +kernel
theorem dX5_turnChopper_22 : decode cX5_turnChopper 22 = .ok (.iconst 1, 1) := by decide +kernel
theorem dX5_turnChopper_23 : decode cX5_turnChopper 23 = .ok (.goto 4, 3) := by decide +kernel
theorem dX5_turnChopper_26 : decode cX5_turnChopper 26 = .ok (.iconst 0, 1) := by decide +kernel
theorem dX5_turnChopper_27 : decode cX5_turnChopper 27 = .ok (.putfield 61, 3) := by decide +kernel
theorem dX5_turnChopper_30 : decode cX5_turnChopper 30 = .ok (.iload_n 2, 1) := by decide +kernel
theorem dX5_turnChopper_31 : decode cX5_turnChopper 31 = .ok (.ireturn, 1) := by decide +kernel
theorem dX5_firstWish_0 : decode cX5_firstWish 0 = .ok (.aload_n 0, 1) := by decide +kernel
theorem dX5_firstWish_1 : decode cX5_firstWish 1 = .ok (.getfield 33, 3) := by decide +kernel
theorem dX5_firstWish_4 : decode cX5_firstWish 4 = .ok (.getfield 86, 3) := by decide +kernel
theorem dX5_firstWish_7 : decode cX5_firstWish 7 = .ok (.ifCond .le 5, 3) := by decide +kernel
theorem dX5_firstWish_10 : decode cX5_firstWish 10 = .ok (.iconst 0, 1) := by decide +kernel
theorem dX5_firstWish_11 : decode cX5_firstWish 11 = .ok (.ireturn, 1) := by decide +kernel
theorem dX5_firstWish_12 : decode cX5_firstWish 12 = .ok (.aload_n 0, 1) := by decide +kernel
theorem dX5_firstWish_13 : decode cX5_firstWish 13 = .ok (.getfield 61, 3) := by decide +kernel
theorem dX5_firstWish_16 : decode cX5_firstWish 16 = .ok (.ifCond .eq 13, 3) := by decide +kernel
theorem dX5_firstWish_19 : decode cX5_firstWish 19 = .ok (.aload_n 0, 1) := by decide +kernel
theorem dX5_firstWish_20 : decode cX5_firstWish 20 = .ok (.getfield 18, 3) := by decide +kernel
theorem dX5_firstWish_23 : decode cX5_firstWish 23 = .ok (.getfield 89, 3) := by decide +kernel
theorem dX5_firstWish_26 : decode cX5_firstWish 26 = .ok (.goto 10, 3) := by decide +kernel
theorem dX5_firstWish_29 : decode cX5_firstWish 29 = .ok (.aload_n 0, 1) := by decide +kernel
theorem dX5_firstWish_30 : decode cX5_firstWish 30 = .ok (.getfield 12, 3) := by decide +kernel
theorem dX5_firstWish_33 : decode cX5_firstWish 33 = .ok (.getfield 89, 3) := by decide +kernel
theorem dX5_firstWish_36 : decode cX5_firstWish 36 = .ok (.ireturn, 1) := by decide +kernel
theorem dX5_secondWish_0 : decode cX5_secondWish 0 = .ok (.aload_n 0, 1) := by decide +kernel
theorem dX5_secondWish_1 : decode cX5_secondWish 1 = .ok (.getfield 33, 3) := by decide +kernel
theorem dX5_secondWish_4 : decode cX5_secondWish 4 = .ok (.getfield 86, 3) := by decide +kernel
theorem dX5_secondWish_7 : decode cX5_secondWish 7 = .ok (.ifCond .le 7, 3) := by decide +kernel
theorem dX5_secondWish_10 : decode cX5_secondWish 10 = .ok (.iconst 0, 1) := by decide +kernel
theorem dX5_secondWish_11 : decode cX5_secondWish 11 = .ok (.goto 10, 3) := by decide +kernel
theorem dX5_secondWish_14 : decode cX5_secondWish 14 = .ok (.aload_n 0, 1) := by decide +kernel
theorem dX5_secondWish_15 : decode cX5_secondWish 15 = .ok (.getfield 18, 3) := by decide +kernel
theorem dX5_secondWish_18 : decode cX5_secondWish 18 = .ok (.getfield 89, 3) := by decide +kernel
theorem dX5_secondWish_21 : decode cX5_secondWish 21 = .ok (.ireturn, 1) := by decide +kernel
set_option maxRecDepth 20000 in
theorem ggX5_isClearable_X3_isLatched : GoodIn wsX5_isClearable wsX3_isLatched := goodIn_r _ [6, 7, 8, 9, 10, 11, 12, 13, 61, 62, 63, 64] (by decide +kernel) (by decide +kernel)
set_option maxRecDepth 20000 in
theorem gX5_isClearable_X3_isLatched : GoodIn wsX5_isClearable (wsV RX5 92 RX3 yX3_isLatched wsX3_isLatched) := goodIn_app (goodIn_of _ (by decide +kernel)) ggX5_isClearable_X3_isLatched
set_option maxRecDepth 20000 in
theorem ggX5_isClearable_X3_placeOf : GoodIn wsX5_isClearable wsX3_placeOf := goodIn_r _ [17, 18, 7, 19, 20, 21, 5, 22, 8, 9, 10, 11, 12, 13, 61, 62, 63, 64] (by decide +kernel) (by decide +kernel)
set_option maxRecDepth 20000 in
theorem gX5_isClearable_X3_placeOf : GoodIn wsX5_isClearable (wsV RX5 96 RX3 yX3_placeOf wsX3_placeOf) := goodIn_app (goodIn_of _ (by decide +kernel)) ggX5_isClearable_X3_placeOf
set_option maxRecDepth 20000 in
theorem ggX5_isClearable_X5_isCauseGone : GoodIn wsX5_isClearable wsX5_isCauseGone := goodIn_r _ [27, 28, 29, 30, 31, 26, 32, 33, 34, 35, 36, 37, 38, 39, 40, 41, 42, 43, 44, 45, 46, 47, 48, 49, 50, 51, 52, 53, 54, 55, 56, 57, 58, 59, 60, 65, 66] (by decide +kernel) (by decide +kernel)
set_option maxRecDepth 20000 in
theorem gX5_isClearable_X5_isCauseGone : GoodIn wsX5_isClearable (wsV RX5 99 RX5 yX5_isCauseGone wsX5_isCauseGone) := goodIn_app (goodIn_of _ (by decide +kernel)) ggX5_isClearable_X5_isCauseGone
theorem dX5_isClearable_0 : decode cX5_isClearable 0 = .ok (.aload_n 0, 1) := by decide +kernel
theorem dX5_isClearable_1 : decode cX5_isClearable 1 = .ok (.getfield 33, 3) := by decide +kernel
theorem dX5_isClearable_4 : decode cX5_isClearable 4 = .ok (.iload_n 1, 1) := by decide +kernel
theorem dX5_isClearable_5 : decode cX5_isClearable 5 = .ok (.invokevirtual 92, 3) := by decide +kernel
theorem dX5_isClearable_8 : decode cX5_isClearable 8 = .ok (.ifCond .eq 27, 3) := by decide +kernel
theorem dX5_isClearable_11 : decode cX5_isClearable 11 = .ok (.aload_n 0, 1) := by decide +kernel
theorem dX5_isClearable_12 : decode cX5_isClearable 12 = .ok (.getfield 33, 3) := by decide +kernel
theorem dX5_isClearable_15 : decode cX5_isClearable 15 = .ok (.iload_n 1, 1) := by decide +kernel
theorem dX5_isClearable_16 : decode cX5_isClearable 16 = .ok (.invokevirtual 96, 3) := by decide +kernel
theorem dX5_isClearable_19 : decode cX5_isClearable 19 = .ok (.ifCond .ne 16, 3) := by decide +kernel
theorem dX5_isClearable_22 : decode cX5_isClearable 22 = .ok (.aload_n 0, 1) := by decide +kernel
theorem dX5_isClearable_23 : decode cX5_isClearable 23 = .ok (.iload_n 1, 1) := by decide +kernel
theorem dX5_isClearable_24 : decode cX5_isClearable 24 = .ok (.aload_n 2, 1) := by decide +kernel
theorem dX5_isClearable_25 : decode cX5_isClearable 25 = .ok (.invokevirtual 99, 3) := by decide +kernel
theorem dX5_isClearable_28 : decode cX5_isClearable 28 = .ok (.ifCond .eq 7, 3) := by decide +kernel
theorem dX5_isClearable_31 : decode cX5_isClearable 31 = .ok (.iconst 1, 1) := by decide +kernel
theorem dX5_isClearable_32 : decode cX5_isClearable 32 = .ok (.goto 4, 3) := by decide +kernel
theorem dX5_isClearable_35 : decode cX5_isClearable 35 = .ok (.iconst 0, 1) := by decide +kernel
theorem dX5_isClearable_36 : decode cX5_isClearable 36 = .ok (.ireturn, 1) := by decide +kernel
set_option maxRecDepth 20000 in
theorem ggX5_isCauseGone_X5_size : GoodIn wsX5_isCauseGone wsX5_size := goodIn_r _ [6, 7, 8, 9, 10, 11, 22, 23, 24, 25, 26, 27, 28, 29, 30, 31, 32, 33, 34] (by decide +kernel) (by decide +kernel)
set_option maxRecDepth 20000 in
theorem gX5_isCauseGone_X5_size : GoodIn wsX5_isCauseGone (wsV RX5 103 RX5 yX5_size wsX5_size) := goodIn_app (goodIn_of _ (by decide +kernel)) ggX5_isCauseGone_X5_size
set_option maxRecDepth 20000 in
theorem ggX5_isCauseGone_X1_value : GoodIn wsX5_isCauseGone wsX1_value := goodIn_r _ [16, 17, 18, 19, 20, 15, 21, 35, 36] (by decide +kernel) (by decide +kernel)
set_option maxRecDepth 20000 in
theorem gX5_isCauseGone_X1_value : GoodIn wsX5_isCauseGone (wsV RX5 107 RX1 yX1_value wsX1_value) := goodIn_app (goodIn_of _ (by decide +kernel)) ggX5_isCauseGone_X1_value
theorem dX5_isCauseGone_0 : decode cX5_isCauseGone 0 = .ok (.iload_n 1, 1) := by decide +kernel
theorem dX5_isCauseGone_1 : decode cX5_isCauseGone 1 = .ok (.lookupswitch 65 #[(0, 27), (2, 45)], 27) := by decide +kernel
theorem dX5_isCauseGone_28 : decode cX5_isCauseGone 28 = .ok (.aload_n 0, 1) := by decide +kernel
theorem dX5_isCauseGone_29 : decode cX5_isCauseGone 29 = .ok (.invokevirtual 103, 3) := by decide +kernel
theorem dX5_isCauseGone_32 : decode cX5_isCauseGone 32 = .ok (.aload_n 2, 1) := by decide +kernel
theorem dX5_isCauseGone_33 : decode cX5_isCauseGone 33 = .ok (.iconst 2, 1) := by decide +kernel
theorem dX5_isCauseGone_34 : decode cX5_isCauseGone 34 = .ok (.invokevirtual 107, 3) := by decide +kernel
theorem dX5_isCauseGone_37 : decode cX5_isCauseGone 37 = .ok (.if_icmp .ge 7, 3) := by decide +kernel
theorem dX5_isCauseGone_40 : decode cX5_isCauseGone 40 = .ok (.iconst 1, 1) := by decide +kernel
theorem dX5_isCauseGone_41 : decode cX5_isCauseGone 41 = .ok (.goto 4, 3) := by decide +kernel
theorem dX5_isCauseGone_44 : decode cX5_isCauseGone 44 = .ok (.iconst 0, 1) := by decide +kernel
theorem dX5_isCauseGone_45 : decode cX5_isCauseGone 45 = .ok (.ireturn, 1) := by decide +kernel
theorem dX5_isCauseGone_46 : decode cX5_isCauseGone 46 = .ok (.aload_n 0, 1) := by decide +kernel
theorem dX5_isCauseGone_47 : decode cX5_isCauseGone 47 = .ok (.getfield 54, 3) := by decide +kernel
theorem dX5_isCauseGone_50 : decode cX5_isCauseGone 50 = .ok (.aload_n 2, 1) := by decide +kernel
theorem dX5_isCauseGone_51 : decode cX5_isCauseGone 51 = .ok (.iconst 4, 1) := by decide +kernel
theorem dX5_isCauseGone_52 : decode cX5_isCauseGone 52 = .ok (.invokevirtual 107, 3) := by decide +kernel
theorem dX5_isCauseGone_55 : decode cX5_isCauseGone 55 = .ok (.iconst 2, 1) := by decide +kernel
theorem dX5_isCauseGone_56 : decode cX5_isCauseGone 56 = .ok (.idiv, 1) := by decide +kernel
theorem dX5_isCauseGone_57 : decode cX5_isCauseGone 57 = .ok (.if_icmp .gt 7, 3) := by decide +kernel
theorem dX5_isCauseGone_60 : decode cX5_isCauseGone 60 = .ok (.iconst 1, 1) := by decide +kernel
theorem dX5_isCauseGone_61 : decode cX5_isCauseGone 61 = .ok (.goto 4, 3) := by decide +kernel
theorem dX5_isCauseGone_64 : decode cX5_isCauseGone 64 = .ok (.iconst 0, 1) := by decide +kernel
theorem dX5_isCauseGone_65 : decode cX5_isCauseGone 65 = .ok (.ireturn, 1) := by decide +kernel
theorem dX5_isCauseGone_66 : decode cX5_isCauseGone 66 = .ok (.iconst 1, 1) := by decide +kernel
theorem dX5_isCauseGone_67 : decode cX5_isCauseGone 67 = .ok (.ireturn, 1) := by decide +kernel
set_option maxRecDepth 20000 in
theorem ggX5_pass_X5_passLegs : GoodIn wsX5_pass wsX5_passLegs := goodIn_r _ [8, 9, 10, 3, 11, 12, 13, 14, 15, 16, 17, 18, 19, 20, 21, 22, 23, 24, 25, 7, 26, 27, 1, 28, 29, 30, 31, 32, 33, 34, 35, 36, 37, 38, 39, 40, 41, 42, 43, 44, 45, 46, 47, 48, 49, 50, 51, 52, 53, 54, 126, 127, 128, 129, 130, 131, 132, 133, 134, 135, 136, 137, 138, 139, 140, 141, 142, 143, 144, 145, 146, 147, 148, 149, 150, 151] (by decide +kernel) (by decide +kernel)
set_option maxRecDepth 20000 in
theorem gX5_pass_X5_passLegs : GoodIn wsX5_pass (wsV RX5 110 RX5 yX5_passLegs wsX5_passLegs) := goodIn_app (goodIn_of _ (by decide +kernel)) ggX5_pass_X5_passLegs
set_option maxRecDepth 20000 in
theorem ggX5_pass_X5_passCurrent : GoodIn wsX5_pass wsX5_passCurrent := goodIn_r _ [58, 59, 11, 60, 61, 62, 63, 64, 65, 66, 67, 68, 69, 70, 13, 14, 15, 16, 17, 18, 19, 20, 21, 22, 71, 72, 7, 73, 74, 75, 76, 77, 78, 79, 80, 126, 127, 128, 129, 130, 131, 132, 133, 134, 135, 136, 137, 138, 139, 140] (by decide +kernel) (by decide +kernel)
set_option maxRecDepth 20000 in
theorem gX5_pass_X5_passCurrent : GoodIn wsX5_pass (wsV RX5 113 RX5 yX5_passCurrent wsX5_passCurrent) := goodIn_app (goodIn_of _ (by decide +kernel)) ggX5_pass_X5_passCurrent
set_option maxRecDepth 20000 in
theorem ggX5_pass_X1_value : GoodIn wsX5_pass wsX1_value := goodIn_r _ [17, 18, 19, 20, 21, 16, 22, 139, 140] (by decide +kernel) (by decide +kernel)
set_option maxRecDepth 20000 in
theorem gX5_pass_X1_value : GoodIn wsX5_pass (wsV RX5 107 RX1 yX1_value wsX1_value) := goodIn_app (goodIn_of _ (by decide +kernel)) ggX5_pass_X1_value
set_option maxRecDepth 20000 in
theorem ggX5_pass_X5_passHeat : GoodIn wsX5_pass wsX5_passHeat := goodIn_r _ [84, 85, 86, 87, 88, 89, 65, 90, 91, 92, 93, 74, 75, 76, 7, 77, 60, 78, 79, 80, 126, 127, 128, 129, 130, 131, 132, 133, 134, 135, 136, 137, 138] (by decide +kernel) (by decide +kernel)
set_option maxRecDepth 20000 in
theorem gX5_pass_X5_passHeat : GoodIn wsX5_pass (wsV RX5 116 RX5 yX5_passHeat wsX5_passHeat) := goodIn_app (goodIn_of _ (by decide +kernel)) ggX5_pass_X5_passHeat
set_option maxRecDepth 20000 in
theorem ggX5_pass_X5_look : GoodIn wsX5_pass wsX5_look := goodIn_r _ [97, 98, 3, 59, 1, 13, 14, 15, 16, 17, 18, 19, 20, 21, 22, 74, 75, 76, 7, 77, 60, 78, 79, 65, 80, 126, 127, 128, 129, 130, 131, 132, 133, 134, 135, 136, 137, 138, 139, 140] (by decide +kernel) (by decide +kernel)
set_option maxRecDepth 20000 in
theorem gX5_pass_X5_look : GoodIn wsX5_pass (wsV RX5 120 RX5 yX5_look wsX5_look) := goodIn_app (goodIn_of _ (by decide +kernel)) ggX5_pass_X5_look
set_option maxRecDepth 20000 in
theorem ggX5_pass_X5_seeFaults : GoodIn wsX5_pass wsX5_seeFaults := goodIn_r _ [102, 27, 60, 103, 104, 105, 7, 106, 3, 12, 59, 85, 74, 75, 76, 77, 78, 79, 65, 80, 13, 14, 15, 16, 17, 18, 19, 20, 21, 22, 107, 108, 109, 110, 111, 112, 113, 114, 115, 116, 117, 118, 119, 120, 121, 122, 123, 124, 125, 126, 127, 128, 129, 130, 131, 132, 133, 134, 135, 136, 137, 138, 139, 140, 141, 142, 143, 144] (by decide +kernel) (by decide +kernel)
set_option maxRecDepth 20000 in
theorem gX5_pass_X5_seeFaults : GoodIn wsX5_pass (wsV RX5 123 RX5 yX5_seeFaults wsX5_seeFaults) := goodIn_app (goodIn_of _ (by decide +kernel)) ggX5_pass_X5_seeFaults
theorem dX5_pass_0 : decode cX5_pass 0 = .ok (.aload_n 0, 1) := by decide +kernel
theorem dX5_pass_1 : decode cX5_pass 1 = .ok (.getfield 61, 3) := by decide +kernel
theorem dX5_pass_4 : decode cX5_pass 4 = .ok (.ifCond .eq 13, 3) := by decide +kernel
theorem dX5_pass_7 : decode cX5_pass 7 = .ok (.aload_n 0, 1) := by decide +kernel
theorem dX5_pass_8 : decode cX5_pass 8 = .ok (.dup, 1) := by decide +kernel
theorem dX5_pass_9 : decode cX5_pass 9 = .ok (.getfield 70, 3) := by decide +kernel
theorem dX5_pass_12 : decode cX5_pass 12 = .ok (.iconst 1, 1) := by decide +kernel
theorem dX5_pass_13 : decode cX5_pass 13 = .ok (.iadd, 1) := by decide +kernel
theorem dX5_pass_14 : decode cX5_pass 14 = .ok (.putfield 70, 3) := by decide +kernel
theorem dX5_pass_17 : decode cX5_pass 17 = .ok (.aload_n 0, 1) := by decide +kernel
theorem dX5_pass_18 : decode cX5_pass 18 = .ok (.aload_n 2, 1) := by decide +kernel
theorem dX5_pass_19 : decode cX5_pass 19 = .ok (.invokevirtual 110, 3) := by decide +kernel
theorem dX5_pass_22 : decode cX5_pass 22 = .ok (.aload_n 0, 1) := by decide +kernel
theorem dX5_pass_23 : decode cX5_pass 23 = .ok (.invokevirtual 113, 3) := by decide +kernel
theorem dX5_pass_26 : decode cX5_pass 26 = .ok (.aload_n 0, 1) := by decide +kernel
theorem dX5_pass_27 : decode cX5_pass 27 = .ok (.aload_n 2, 1) := by decide +kernel
theorem dX5_pass_28 : decode cX5_pass 28 = .ok (.iconst 5, 1) := by decide +kernel
theorem dX5_pass_29 : decode cX5_pass 29 = .ok (.invokevirtual 107, 3) := by decide +kernel
theorem dX5_pass_32 : decode cX5_pass 32 = .ok (.invokevirtual 116, 3) := by decide +kernel
theorem dX5_pass_35 : decode cX5_pass 35 = .ok (.aload_n 0, 1) := by decide +kernel
theorem dX5_pass_36 : decode cX5_pass 36 = .ok (.invokevirtual 120, 3) := by decide +kernel
theorem dX5_pass_39 : decode cX5_pass 39 = .ok (.aload_n 0, 1) := by decide +kernel
theorem dX5_pass_40 : decode cX5_pass 40 = .ok (.iload_n 1, 1) := by decide +kernel
theorem dX5_pass_41 : decode cX5_pass 41 = .ok (.aload_n 2, 1) := by decide +kernel
theorem dX5_pass_42 : decode cX5_pass 42 = .ok (.invokevirtual 123, 3) := by decide +kernel
theorem dX5_pass_45 : decode cX5_pass 45 = .ok (.istore_n 3, 1) := by decide +kernel
theorem dX5_pass_46 : decode cX5_pass 46 = .ok (.aload_n 0, 1) := by decide +kernel
theorem dX5_pass_47 : decode cX5_pass 47 = .ok (.getfield 64, 3) := by decide +kernel
theorem dX5_pass_50 : decode cX5_pass 50 = .ok (.ifCond .le 13, 3) := by decide +kernel
theorem dX5_pass_53 : decode cX5_pass 53 = .ok (.aload_n 0, 1) := by decide +kernel
theorem dX5_pass_54 : decode cX5_pass 54 = .ok (.dup, 1) := by decide +kernel
theorem dX5_pass_55 : decode cX5_pass 55 = .ok (.getfield 64, 3) := by decide +kernel
theorem dX5_pass_58 : decode cX5_pass 58 = .ok (.iconst 1, 1) := by decide +kernel
theorem dX5_pass_59 : decode cX5_pass 59 = .ok (.isub, 1) := by decide +kernel
theorem dX5_pass_60 : decode cX5_pass 60 = .ok (.putfield 64, 3) := by decide +kernel
theorem dX5_pass_63 : decode cX5_pass 63 = .ok (.iload_n 3, 1) := by decide +kernel
theorem dX5_pass_64 : decode cX5_pass 64 = .ok (.ireturn, 1) := by decide +kernel
set_option maxRecDepth 20000 in
theorem ggX5_passLegs_X1_value : GoodIn wsX5_passLegs wsX1_value := goodIn_r _ [10, 11, 12, 13, 14, 9, 15, 63, 64] (by decide +kernel) (by decide +kernel)
set_option maxRecDepth 20000 in
theorem gX5_passLegs_X1_value : GoodIn wsX5_passLegs (wsV RX5 107 RX1 yX1_value wsX1_value) := goodIn_app (goodIn_of _ (by decide +kernel)) ggX5_passLegs_X1_value
set_option maxRecDepth 20000 in
theorem ggX5_passLegs_X5_firstWish : GoodIn wsX5_passLegs wsX5_firstWish := goodIn_r _ [20, 21, 22, 2, 1, 50, 51, 52, 53, 54, 55, 56, 57, 58, 59, 60, 61, 62, 65, 66, 67, 68, 69, 70, 71, 72, 73, 74, 75] (by decide +kernel) (by decide +kernel)
set_option maxRecDepth 20000 in
theorem gX5_passLegs_X5_firstWish : GoodIn wsX5_passLegs (wsV RX5 127 RX5 yX5_firstWish wsX5_firstWish) := goodIn_app (goodIn_of _ (by decide +kernel)) ggX5_passLegs_X5_firstWish
set_option maxRecDepth 20000 in
theorem ggX5_passLegs_X5_secondWish : GoodIn wsX5_passLegs wsX5_secondWish := goodIn_r _ [26, 21, 2, 50, 51, 52, 53, 54, 55, 56, 57, 58, 59, 60, 61, 62, 65, 66, 67, 68, 69, 70, 71, 72, 73, 74, 75] (by decide +kernel) (by decide +kernel)
set_option maxRecDepth 20000 in
theorem gX5_passLegs_X5_secondWish : GoodIn wsX5_passLegs (wsV RX5 130 RX5 yX5_secondWish wsX5_secondWish) := goodIn_app (goodIn_of _ (by decide +kernel)) ggX5_passLegs_X5_secondWish
set_option maxRecDepth 20000 in
theorem ggX5_passLegs_X4_pass : GoodIn wsX5_passLegs wsX4_pass := goodIn_r _ [31, 32, 33, 34, 35, 36, 30, 37, 38, 39, 40, 41, 42, 43, 44, 45, 69, 70, 71, 72, 73, 74, 75] (by decide +kernel) (by decide +kernel)
set_option maxRecDepth 20000 in
theorem gX5_passLegs_X4_pass : GoodIn wsX5_passLegs (wsV RX5 133 RX4 yX4_pass wsX4_pass) := goodIn_app (goodIn_of _ (by decide +kernel)) ggX5_passLegs_X4_pass
set_option maxRecDepth 20000 in
theorem ggX5_passLegs_X5_driveOfStates : GoodIn wsX5_passLegs wsX5_driveOfStates := goodIn_r _ [49, 1, 2, 50, 51, 52, 53, 54, 55, 56, 57, 58, 59, 60, 61, 62, 69, 70, 71, 72, 73, 74, 75] (by decide +kernel) (by decide +kernel)
set_option maxRecDepth 20000 in
theorem gX5_passLegs_X5_driveOfStates : GoodIn wsX5_passLegs (wsV RX5 137 RX5 yX5_driveOfStates wsX5_driveOfStates) := goodIn_app (goodIn_of _ (by decide +kernel)) ggX5_passLegs_X5_driveOfStates
theorem dX5_passLegs_0 : decode cX5_passLegs 0 = .ok (.aload_n 1, 1) := by decide +kernel
theorem dX5_passLegs_1 : decode cX5_passLegs 1 = .ok (.iconst 0, 1) := by decide +kernel
theorem dX5_passLegs_2 : decode cX5_passLegs 2 = .ok (.invokevirtual 107, 3) := by decide +kernel
theorem dX5_passLegs_5 : decode cX5_passLegs 5 = .ok (.istore_n 2, 1) := by decide +kernel
theorem dX5_passLegs_6 : decode cX5_passLegs 6 = .ok (.aload_n 0, 1) := by decide +kernel
theorem dX5_passLegs_7 : decode cX5_passLegs 7 = .ok (.invokevirtual 127, 3) := by decide +kernel
theorem dX5_passLegs_10 : decode cX5_passLegs 10 = .ok (.istore_n 3, 1) := by decide +kernel
theorem dX5_passLegs_11 : decode cX5_passLegs 11 = .ok (.aload_n 0, 1) := by decide +kernel
theorem dX5_passLegs_12 : decode cX5_passLegs 12 = .ok (.invokevirtual 130, 3) := by decide +kernel
theorem dX5_passLegs_15 : decode cX5_passLegs 15 = .ok (.istore 4, 2) := by decide +kernel
theorem dX5_passLegs_17 : decode cX5_passLegs 17 = .ok (.aload_n 0, 1) := by decide +kernel
theorem dX5_passLegs_18 : decode cX5_passLegs 18 = .ok (.getfield 12, 3) := by decide +kernel
theorem dX5_passLegs_21 : decode cX5_passLegs 21 = .ok (.iload_n 3, 1) := by decide +kernel
theorem dX5_passLegs_22 : decode cX5_passLegs 22 = .ok (.iload_n 2, 1) := by decide +kernel
theorem dX5_passLegs_23 : decode cX5_passLegs 23 = .ok (.invokevirtual 133, 3) := by decide +kernel
theorem dX5_passLegs_26 : decode cX5_passLegs 26 = .ok (.istore 5, 2) := by decide +kernel
theorem dX5_passLegs_28 : decode cX5_passLegs 28 = .ok (.aload_n 0, 1) := by decide +kernel
theorem dX5_passLegs_29 : decode cX5_passLegs 29 = .ok (.getfield 18, 3) := by decide +kernel
theorem dX5_passLegs_32 : decode cX5_passLegs 32 = .ok (.iload 4, 2) := by decide +kernel
theorem dX5_passLegs_34 : decode cX5_passLegs 34 = .ok (.iload_n 2, 1) := by decide +kernel
theorem dX5_passLegs_35 : decode cX5_passLegs 35 = .ok (.invokevirtual 133, 3) := by decide +kernel
theorem dX5_passLegs_38 : decode cX5_passLegs 38 = .ok (.istore 6, 2) := by decide +kernel
theorem dX5_passLegs_40 : decode cX5_passLegs 40 = .ok (.iload 5, 2) := by decide +kernel
theorem dX5_passLegs_42 : decode cX5_passLegs 42 = .ok (.ifCond .ne 8, 3) := by decide +kernel
theorem dX5_passLegs_45 : decode cX5_passLegs 45 = .ok (.iload 6, 2) := by decide +kernel
theorem dX5_passLegs_47 : decode cX5_passLegs 47 = .ok (.ifCond .eq 12, 3) := by decide +kernel
theorem dX5_passLegs_50 : decode cX5_passLegs 50 = .ok (.aload_n 0, 1) := by decide +kernel
theorem dX5_passLegs_51 : decode cX5_passLegs 51 = .ok (.aload_n 1, 1) := by decide +kernel
theorem dX5_passLegs_52 : decode cX5_passLegs 52 = .ok (.iconst 1, 1) := by decide +kernel
theorem dX5_passLegs_53 : decode cX5_passLegs 53 = .ok (.invokevirtual 107, 3) := by decide +kernel
theorem dX5_passLegs_56 : decode cX5_passLegs 56 = .ok (.putfield 64, 3) := by decide +kernel
theorem dX5_passLegs_59 : decode cX5_passLegs 59 = .ok (.aload_n 0, 1) := by decide +kernel
theorem dX5_passLegs_60 : decode cX5_passLegs 60 = .ok (.aload_n 0, 1) := by decide +kernel
theorem dX5_passLegs_61 : decode cX5_passLegs 61 = .ok (.invokevirtual 137, 3) := by decide +kernel
theorem dX5_passLegs_64 : decode cX5_passLegs 64 = .ok (.putfield 37, 3) := by decide +kernel
theorem dX5_passLegs_67 : decode cX5_passLegs 67 = .ok (.aload_n 0, 1) := by decide +kernel
theorem dX5_passLegs_68 : decode cX5_passLegs 68 = .ok (.aload_n 0, 1) := by decide +kernel
theorem dX5_passLegs_69 : decode cX5_passLegs 69 = .ok (.getfield 37, 3) := by decide +kernel
theorem dX5_passLegs_72 : decode cX5_passLegs 72 = .ok (.iconst 1, 1) := by decide +kernel
theorem dX5_passLegs_73 : decode cX5_passLegs 73 = .ok (.if_icmp .eq 11, 3) := by decide +kernel
theorem dX5_passLegs_76 : decode cX5_passLegs 76 = .ok (.aload_n 0, 1) := by decide +kernel
theorem dX5_passLegs_77 : decode cX5_passLegs 77 = .ok (.getfield 37, 3) := by decide +kernel
theorem dX5_passLegs_80 : decode cX5_passLegs 80 = .ok (.iconst (-1), 1) := by decide +kernel
theorem dX5_passLegs_81 : decode cX5_passLegs 81 = .ok (.if_icmp .ne 12, 3) := by decide +kernel
theorem dX5_passLegs_84 : decode cX5_passLegs 84 = .ok (.aload_n 0, 1) := by decide +kernel
theorem dX5_passLegs_85 : decode cX5_passLegs 85 = .ok (.getfield 67, 3) := by decide +kernel
theorem dX5_passLegs_88 : decode cX5_passLegs 88 = .ok (.iconst 1, 1) := by decide +kernel
theorem dX5_passLegs_89 : decode cX5_passLegs 89 = .ok (.iadd, 1) := by decide +kernel
theorem dX5_passLegs_90 : decode cX5_passLegs 90 = .ok (.goto 4, 3) := by decide +kernel
theorem dX5_passLegs_93 : decode cX5_passLegs 93 = .ok (.iconst 0, 1) := by decide +kernel
theorem dX5_passLegs_94 : decode cX5_passLegs 94 = .ok (.putfield 67, 3) := by decide +kernel
theorem dX5_passLegs_97 : decode cX5_passLegs 97 = .ok (.return_, 1) := by decide +kernel
theorem dX5_driveOfStates_0 : decode cX5_driveOfStates 0 = .ok (.aload_n 0, 1) := by decide +kernel
theorem dX5_driveOfStates_1 : decode cX5_driveOfStates 1 = .ok (.getfield 12, 3) := by decide +kernel
theorem dX5_driveOfStates_4 : decode cX5_driveOfStates 4 = .ok (.getfield 140, 3) := by decide +kernel
theorem dX5_driveOfStates_7 : decode cX5_driveOfStates 7 = .ok (.ifCond .eq 13, 3) := by decide +kernel
theorem dX5_driveOfStates_10 : decode cX5_driveOfStates 10 = .ok (.aload_n 0, 1) := by decide +kernel
theorem dX5_driveOfStates_11 : decode cX5_driveOfStates 11 = .ok (.getfield 18, 3) := by decide +kernel
theorem dX5_driveOfStates_14 : decode cX5_driveOfStates 14 = .ok (.getfield 140, 3) := by decide +kernel
theorem dX5_driveOfStates_17 : decode cX5_driveOfStates 17 = .ok (.ifCond .ne 5, 3) := by decide +kernel
theorem dX5_driveOfStates_20 : decode cX5_driveOfStates 20 = .ok (.iconst 2, 1) := by decide +kernel
theorem dX5_driveOfStates_21 : decode cX5_driveOfStates 21 = .ok (.ireturn, 1) := by decide +kernel
theorem dX5_driveOfStates_22 : decode cX5_driveOfStates 22 = .ok (.aload_n 0, 1) := by decide +kernel
theorem dX5_driveOfStates_23 : decode cX5_driveOfStates 23 = .ok (.getfield 12, 3) := by decide +kernel
theorem dX5_driveOfStates_26 : decode cX5_driveOfStates 26 = .ok (.getfield 140, 3) := by decide +kernel
theorem dX5_driveOfStates_29 : decode cX5_driveOfStates 29 = .ok (.aload_n 0, 1) := by decide +kernel
theorem dX5_driveOfStates_30 : decode cX5_driveOfStates 30 = .ok (.getfield 18, 3) := by decide +kernel
theorem dX5_driveOfStates_33 : decode cX5_driveOfStates 33 = .ok (.getfield 140, 3) := by decide +kernel
theorem dX5_driveOfStates_36 : decode cX5_driveOfStates 36 = .ok (.if_icmp .ne 5, 3) := by decide +kernel
theorem dX5_driveOfStates_39 : decode cX5_driveOfStates 39 = .ok (.iconst 0, 1) := by decide +kernel
theorem dX5_driveOfStates_40 : decode cX5_driveOfStates 40 = .ok (.ireturn, 1) := by decide +kernel
theorem dX5_driveOfStates_41 : decode cX5_driveOfStates 41 = .ok (.aload_n 0, 1) := by decide +kernel
theorem dX5_driveOfStates_42 : decode cX5_driveOfStates 42 = .ok (.getfield 12, 3) := by decide +kernel
theorem dX5_driveOfStates_45 : decode cX5_driveOfStates 45 = .ok (.getfield 140, 3) := by decide +kernel
theorem dX5_driveOfStates_48 : decode cX5_driveOfStates 48 = .ok (.iconst 1, 1) := by decide +kernel
theorem dX5_driveOfStates_49 : decode cX5_driveOfStates 49 = .ok (.if_icmp .ne 7, 3) := by decide +kernel
theorem dX5_driveOfStates_52 : decode cX5_driveOfStates 52 = .ok (.iconst 1, 1) := by decide +kernel
theorem dX5_driveOfStates_53 : decode cX5_driveOfStates 53 = .ok (.goto 4, 3) := by decide +kernel
theorem dX5_driveOfStates_56 : decode cX5_driveOfStates 56 = .ok (.iconst (-1), 1) := by decide +kernel
theorem dX5_driveOfStates_57 : decode cX5_driveOfStates 57 = .ok (.ireturn, 1) := by decide +kernel
set_option maxRecDepth 20000 in
theorem ggX5_passCurrent_X1_value : GoodIn wsX5_passCurrent wsX1_value := goodIn_r _ [18, 19, 20, 21, 22, 17, 23, 48, 49] (by decide +kernel) (by decide +kernel)
set_option maxRecDepth 20000 in
theorem gX5_passCurrent_X1_value : GoodIn wsX5_passCurrent (wsV RX5 107 RX1 yX1_value wsX1_value) := goodIn_app (goodIn_of _ (by decide +kernel)) ggX5_passCurrent_X1_value
set_option maxRecDepth 20000 in
theorem ggX5_passCurrent_X5_towardZero : GoodIn wsX5_passCurrent wsX5_towardZero := goodIn_r _ [27, 10, 11, 8, 12, 6, 7, 9] (by decide +kernel) (by decide +kernel)
set_option maxRecDepth 20000 in
theorem gX5_passCurrent_X5_towardZero : GoodIn wsX5_passCurrent (va_wsS RX5 143 yX5_towardZero wsX5_towardZero) := goodIn_app (goodIn_of _ (by decide +kernel)) ggX5_passCurrent_X5_towardZero
set_option maxRecDepth 20000 in
theorem ggX5_passCurrent_X5_size : GoodIn wsX5_passCurrent wsX5_size := goodIn_r _ [31, 3, 32, 33, 8, 34, 35, 36, 37, 38, 39, 40, 41, 42, 43, 44, 45, 46, 47] (by decide +kernel) (by decide +kernel)
set_option maxRecDepth 20000 in
theorem gX5_passCurrent_X5_size : GoodIn wsX5_passCurrent (wsV RX5 103 RX5 yX5_size wsX5_size) := goodIn_app (goodIn_of _ (by decide +kernel)) ggX5_passCurrent_X5_size
theorem dX5_passCurrent_0 : decode cX5_passCurrent 0 = .ok (.aload_n 0, 1) := by decide +kernel
theorem dX5_passCurrent_1 : decode cX5_passCurrent 1 = .ok (.getfield 26, 3) := by decide +kernel
theorem dX5_passCurrent_4 : decode cX5_passCurrent 4 = .ok (.iconst 0, 1) := by decide +kernel
theorem dX5_passCurrent_5 : decode cX5_passCurrent 5 = .ok (.invokevirtual 107, 3) := by decide +kernel
theorem dX5_passCurrent_8 : decode cX5_passCurrent 8 = .ok (.istore_n 1, 1) := by decide +kernel
theorem dX5_passCurrent_9 : decode cX5_passCurrent 9 = .ok (.aload_n 0, 1) := by decide +kernel
theorem dX5_passCurrent_10 : decode cX5_passCurrent 10 = .ok (.getfield 26, 3) := by decide +kernel
theorem dX5_passCurrent_13 : decode cX5_passCurrent 13 = .ok (.iconst 1, 1) := by decide +kernel
theorem dX5_passCurrent_14 : decode cX5_passCurrent 14 = .ok (.invokevirtual 107, 3) := by decide +kernel
theorem dX5_passCurrent_17 : decode cX5_passCurrent 17 = .ok (.istore_n 2, 1) := by decide +kernel
theorem dX5_passCurrent_18 : decode cX5_passCurrent 18 = .ok (.aload_n 0, 1) := by decide +kernel
theorem dX5_passCurrent_19 : decode cX5_passCurrent 19 = .ok (.getfield 37, 3) := by decide +kernel
theorem dX5_passCurrent_22 : decode cX5_passCurrent 22 = .ok (.iconst 2, 1) := by decide +kernel
theorem dX5_passCurrent_23 : decode cX5_passCurrent 23 = .ok (.if_icmp .ne 20, 3) := by decide +kernel
theorem dX5_passCurrent_26 : decode cX5_passCurrent 26 = .ok (.aload_n 0, 1) := by decide +kernel
theorem dX5_passCurrent_27 : decode cX5_passCurrent 27 = .ok (.aload_n 0, 1) := by decide +kernel
theorem dX5_passCurrent_28 : decode cX5_passCurrent 28 = .ok (.getfield 51, 3) := by decide +kernel
theorem dX5_passCurrent_31 : decode cX5_passCurrent 31 = .ok (.iload_n 1, 1) := by decide +kernel
theorem dX5_passCurrent_32 : decode cX5_passCurrent 32 = .ok (.iload_n 2, 1) := by decide +kernel
theorem dX5_passCurrent_33 : decode cX5_passCurrent 33 = .ok (.iadd, 1) := by decide +kernel
theorem dX5_passCurrent_34 : decode cX5_passCurrent 34 = .ok (.invokestatic 143, 3) := by decide +kernel
theorem dX5_passCurrent_37 : decode cX5_passCurrent 37 = .ok (.putfield 51, 3) := by decide +kernel
theorem dX5_passCurrent_40 : decode cX5_passCurrent 40 = .ok (.goto 22, 3) := by decide +kernel
theorem dX5_passCurrent_43 : decode cX5_passCurrent 43 = .ok (.aload_n 0, 1) := by decide +kernel
theorem dX5_passCurrent_44 : decode cX5_passCurrent 44 = .ok (.aload_n 0, 1) := by decide +kernel
theorem dX5_passCurrent_45 : decode cX5_passCurrent 45 = .ok (.getfield 51, 3) := by decide +kernel
theorem dX5_passCurrent_48 : decode cX5_passCurrent 48 = .ok (.iload_n 1, 1) := by decide +kernel
theorem dX5_passCurrent_49 : decode cX5_passCurrent 49 = .ok (.aload_n 0, 1) := by decide +kernel
theorem dX5_passCurrent_50 : decode cX5_passCurrent 50 = .ok (.getfield 37, 3) := by decide +kernel
theorem dX5_passCurrent_53 : decode cX5_passCurrent 53 = .ok (.imul, 1) := by decide +kernel
theorem dX5_passCurrent_54 : decode cX5_passCurrent 54 = .ok (.iadd, 1) := by decide +kernel
theorem dX5_passCurrent_55 : decode cX5_passCurrent 55 = .ok (.iload_n 2, 1) := by decide +kernel
theorem dX5_passCurrent_56 : decode cX5_passCurrent 56 = .ok (.invokestatic 143, 3) := by decide +kernel
theorem dX5_passCurrent_59 : decode cX5_passCurrent 59 = .ok (.putfield 51, 3) := by decide +kernel
theorem dX5_passCurrent_62 : decode cX5_passCurrent 62 = .ok (.aload_n 0, 1) := by decide +kernel
theorem dX5_passCurrent_63 : decode cX5_passCurrent 63 = .ok (.ldc 147, 2) := by decide +kernel
theorem dX5_passCurrent_65 : decode cX5_passCurrent 65 = .ok (.ldc 148, 2) := by decide +kernel
theorem dX5_passCurrent_67 : decode cX5_passCurrent 67 = .ok (.aload_n 0, 1) := by decide +kernel
theorem dX5_passCurrent_68 : decode cX5_passCurrent 68 = .ok (.getfield 51, 3) := by decide +kernel
theorem dX5_passCurrent_71 : decode cX5_passCurrent 71 = .ok (.invokestatic 149, 3) := by decide +kernel
theorem dX5_passCurrent_74 : decode cX5_passCurrent 74 = .ok (.invokestatic 152, 3) := by decide +kernel
theorem dX5_passCurrent_77 : decode cX5_passCurrent 77 = .ok (.putfield 51, 3) := by decide +kernel
theorem dX5_passCurrent_80 : decode cX5_passCurrent 80 = .ok (.aload_n 0, 1) := by decide +kernel
theorem dX5_passCurrent_81 : decode cX5_passCurrent 81 = .ok (.dup, 1) := by decide +kernel
theorem dX5_passCurrent_82 : decode cX5_passCurrent 82 = .ok (.getfield 73, 3) := by decide +kernel
theorem dX5_passCurrent_85 : decode cX5_passCurrent 85 = .ok (.aload_n 0, 1) := by decide +kernel
theorem dX5_passCurrent_86 : decode cX5_passCurrent 86 = .ok (.invokevirtual 103, 3) := by decide +kernel
theorem dX5_passCurrent_89 : decode cX5_passCurrent 89 = .ok (.i2l, 1) := by decide +kernel
theorem dX5_passCurrent_90 : decode cX5_passCurrent 90 = .ok (.ladd, 1) := by decide +kernel
theorem dX5_passCurrent_91 : decode cX5_passCurrent 91 = .ok (.putfield 73, 3) := by decide +kernel
theorem dX5_passCurrent_94 : decode cX5_passCurrent 94 = .ok (.return_, 1) := by decide +kernel
theorem dX5_towardZero_0 : decode cX5_towardZero 0 = .ok (.iload_n 0, 1) := by decide +kernel
theorem dX5_towardZero_1 : decode cX5_towardZero 1 = .ok (.ifCond .le 11, 3) := by decide +kernel
theorem dX5_towardZero_4 : decode cX5_towardZero 4 = .ok (.iconst 0, 1) := by decide +kernel
theorem dX5_towardZero_5 : decode cX5_towardZero 5 = .ok (.iload_n 0, 1) := by decide +kernel
theorem dX5_towardZero_6 : decode cX5_towardZero 6 = .ok (.iload_n 1, 1) := by decide +kernel
theorem dX5_towardZero_7 : decode cX5_towardZero 7 = .ok (.isub, 1) := by decide +kernel
theorem dX5_towardZero_8 : decode cX5_towardZero 8 = .ok (.invokestatic 152, 3) := by decide +kernel
theorem dX5_towardZero_11 : decode cX5_towardZero 11 = .ok (.ireturn, 1) := by decide +kernel
theorem dX5_towardZero_12 : decode cX5_towardZero 12 = .ok (.iconst 0, 1) := by decide +kernel
theorem dX5_towardZero_13 : decode cX5_towardZero 13 = .ok (.iload_n 0, 1) := by decide +kernel
theorem dX5_towardZero_14 : decode cX5_towardZero 14 = .ok (.iload_n 1, 1) := by decide +kernel
theorem dX5_towardZero_15 : decode cX5_towardZero 15 = .ok (.iadd, 1) := by decide +kernel
theorem dX5_towardZero_16 : decode cX5_towardZero 16 = .ok (.invokestatic 149, 3) := by decide +kernel
theorem dX5_towardZero_19 : decode cX5_towardZero 19 = .ok (.ireturn, 1) := by decide +kernel
set_option maxRecDepth 20000 in
theorem ggX5_passHeat_X5_size : GoodIn wsX5_passHeat wsX5_size := goodIn_r _ [15, 16, 17, 18, 6, 19, 20, 21, 22, 23, 24, 25, 26, 27, 28, 29, 30, 31, 32] (by decide +kernel) (by decide +kernel)
set_option maxRecDepth 20000 in
theorem gX5_passHeat_X5_size : GoodIn wsX5_passHeat (wsV RX5 103 RX5 yX5_size wsX5_size) := goodIn_app (goodIn_of _ (by decide +kernel)) ggX5_passHeat_X5_size
theorem dX5_passHeat_0 : decode cX5_passHeat 0 = .ok (.aload_n 0, 1) := by decide +kernel
theorem dX5_passHeat_1 : decode cX5_passHeat 1 = .ok (.invokevirtual 103, 3) := by decide +kernel
theorem dX5_passHeat_4 : decode cX5_passHeat 4 = .ok (.i2l, 1) := by decide +kernel
theorem dX5_passHeat_5 : decode cX5_passHeat 5 = .ok (.lstore_n 2, 1) := by decide +kernel
theorem dX5_passHeat_6 : decode cX5_passHeat 6 = .ok (.aload_n 0, 1) := by decide +kernel
theorem dX5_passHeat_7 : decode cX5_passHeat 7 = .ok (.getfield 54, 3) := by decide +kernel
theorem dX5_passHeat_10 : decode cX5_passHeat 10 = .ok (.i2l, 1) := by decide +kernel
theorem dX5_passHeat_11 : decode cX5_passHeat 11 = .ok (.lload_n 2, 1) := by decide +kernel
theorem dX5_passHeat_12 : decode cX5_passHeat 12 = .ok (.lload_n 2, 1) := by decide +kernel
theorem dX5_passHeat_13 : decode cX5_passHeat 13 = .ok (.lmul, 1) := by decide +kernel
theorem dX5_passHeat_14 : decode cX5_passHeat 14 = .ok (.ldc2_w 155, 3) := by decide +kernel
theorem dX5_passHeat_17 : decode cX5_passHeat 17 = .ok (.ldiv, 1) := by decide +kernel
theorem dX5_passHeat_18 : decode cX5_passHeat 18 = .ok (.ladd, 1) := by decide +kernel
theorem dX5_passHeat_19 : decode cX5_passHeat 19 = .ok (.iload_n 1, 1) := by decide +kernel
theorem dX5_passHeat_20 : decode cX5_passHeat 20 = .ok (.i2l, 1) := by decide +kernel
theorem dX5_passHeat_21 : decode cX5_passHeat 21 = .ok (.lsub, 1) := by decide +kernel
theorem dX5_passHeat_22 : decode cX5_passHeat 22 = .ok (.lstore 4, 2) := by decide +kernel
theorem dX5_passHeat_24 : decode cX5_passHeat 24 = .ok (.aload_n 0, 1) := by decide +kernel
theorem dX5_passHeat_25 : decode cX5_passHeat 25 = .ok (.lconst 0, 1) := by decide +kernel
theorem dX5_passHeat_26 : decode cX5_passHeat 26 = .ok (.ldc2_w 157, 3) := by decide +kernel
theorem dX5_passHeat_29 : decode cX5_passHeat 29 = .ok (.lload 4, 2) := by decide +kernel
theorem dX5_passHeat_31 : decode cX5_passHeat 31 = .ok (.invokestatic 159, 3) := by decide +kernel
theorem dX5_passHeat_34 : decode cX5_passHeat 34 = .ok (.invokestatic 162, 3) := by decide +kernel
theorem dX5_passHeat_37 : decode cX5_passHeat 37 = .ok (.l2i, 1) := by decide +kernel
theorem dX5_passHeat_38 : decode cX5_passHeat 38 = .ok (.putfield 54, 3) := by decide +kernel
theorem dX5_passHeat_41 : decode cX5_passHeat 41 = .ok (.return_, 1) := by decide +kernel
set_option maxRecDepth 20000 in
theorem ggX5_look_X1_value : GoodIn wsX5_look wsX1_value := goodIn_r _ [9, 10, 11, 12, 13, 8, 14, 38, 39] (by decide +kernel) (by decide +kernel)
set_option maxRecDepth 20000 in
theorem gX5_look_X1_value : GoodIn wsX5_look (wsV RX5 107 RX1 yX1_value wsX1_value) := goodIn_app (goodIn_of _ (by decide +kernel)) ggX5_look_X1_value
set_option maxRecDepth 20000 in
theorem ggX5_look_X5_size : GoodIn wsX5_look wsX5_size := goodIn_r _ [19, 20, 21, 22, 23, 24, 25, 26, 27, 28, 29, 30, 31, 32, 33, 34, 35, 36, 37] (by decide +kernel) (by decide +kernel)
set_option maxRecDepth 20000 in
theorem gX5_look_X5_size : GoodIn wsX5_look (wsV RX5 103 RX5 yX5_size wsX5_size) := goodIn_app (goodIn_of _ (by decide +kernel)) ggX5_look_X5_size
theorem dX5_look_0 : decode cX5_look 0 = .ok (.aload_n 0, 1) := by decide +kernel
theorem dX5_look_1 : decode cX5_look 1 = .ok (.getfield 57, 3) := by decide +kernel
theorem dX5_look_4 : decode cX5_look 4 = .ok (.ifCond .eq 10, 3) := by decide +kernel
theorem dX5_look_7 : decode cX5_look 7 = .ok (.aload_n 0, 1) := by decide +kernel
theorem dX5_look_8 : decode cX5_look 8 = .ok (.getfield 64, 3) := by decide +kernel
theorem dX5_look_11 : decode cX5_look 11 = .ok (.ifCond .le 4, 3) := by decide +kernel
theorem dX5_look_14 : decode cX5_look 14 = .ok (.return_, 1) := by decide +kernel
theorem dX5_look_15 : decode cX5_look 15 = .ok (.aload_n 0, 1) := by decide +kernel
theorem dX5_look_16 : decode cX5_look 16 = .ok (.getfield 26, 3) := by decide +kernel
theorem dX5_look_19 : decode cX5_look 19 = .ok (.iconst 2, 1) := by decide +kernel
theorem dX5_look_20 : decode cX5_look 20 = .ok (.invokevirtual 107, 3) := by decide +kernel
theorem dX5_look_23 : decode cX5_look 23 = .ok (.istore_n 1, 1) := by decide +kernel
theorem dX5_look_24 : decode cX5_look 24 = .ok (.aload_n 0, 1) := by decide +kernel
theorem dX5_look_25 : decode cX5_look 25 = .ok (.invokevirtual 103, 3) := by decide +kernel
theorem dX5_look_28 : decode cX5_look 28 = .ok (.iload_n 1, 1) := by decide +kernel
theorem dX5_look_29 : decode cX5_look 29 = .ok (.if_icmp .lt 11, 3) := by decide +kernel
theorem dX5_look_32 : decode cX5_look 32 = .ok (.aload_n 0, 1) := by decide +kernel
theorem dX5_look_33 : decode cX5_look 33 = .ok (.iconst 1, 1) := by decide +kernel
theorem dX5_look_34 : decode cX5_look 34 = .ok (.putfield 61, 3) := by decide +kernel
theorem dX5_look_37 : decode cX5_look 37 = .ok (.goto 25, 3) := by decide +kernel
theorem dX5_look_40 : decode cX5_look 40 = .ok (.aload_n 0, 1) := by decide +kernel
theorem dX5_look_41 : decode cX5_look 41 = .ok (.invokevirtual 103, 3) := by decide +kernel
theorem dX5_look_44 : decode cX5_look 44 = .ok (.iload_n 1, 1) := by decide +kernel
theorem dX5_look_45 : decode cX5_look 45 = .ok (.aload_n 0, 1) := by decide +kernel
theorem dX5_look_46 : decode cX5_look 46 = .ok (.getfield 26, 3) := by decide +kernel
theorem dX5_look_49 : decode cX5_look 49 = .ok (.iconst 3, 1) := by decide +kernel
theorem dX5_look_50 : decode cX5_look 50 = .ok (.invokevirtual 107, 3) := by decide +kernel
theorem dX5_look_53 : decode cX5_look 53 = .ok (.isub, 1) := by decide +kernel
theorem dX5_look_54 : decode cX5_look 54 = .ok (.if_icmp .gt 8, 3) := by decide +kernel
theorem dX5_look_57 : decode cX5_look 57 = .ok (.aload_n 0, 1) := by decide +kernel
theorem dX5_look_58 : decode cX5_look 58 = .ok (.iconst 0, 1) := by decide +kernel
theorem dX5_look_59 : decode cX5_look 59 = .ok (.putfield 61, 3) := by decide +kernel
theorem dX5_look_62 : decode cX5_look 62 = .ok (.return_, 1) := by decide +kernel
set_option maxRecDepth 20000 in
theorem ggX5_seeFaults_X5_isSeen : GoodIn wsX5_seeFaults wsX5_isSeen := goodIn_r _ [7, 8, 9, 10, 11, 12, 13, 14, 6, 15, 2, 16, 17, 18, 19, 20, 21, 22, 23, 24, 25, 26, 27, 28, 29, 49, 50, 51, 52, 53, 54, 55, 56, 57, 58, 59, 60, 61, 62, 63] (by decide +kernel) (by decide +kernel)
set_option maxRecDepth 20000 in
theorem gX5_seeFaults_X5_isSeen : GoodIn wsX5_seeFaults (wsV RX5 164 RX5 yX5_isSeen wsX5_isSeen) := goodIn_app (goodIn_of _ (by decide +kernel)) ggX5_seeFaults_X5_isSeen
set_option maxRecDepth 20000 in
theorem ggX5_seeFaults_X3_isLatched : GoodIn wsX5_seeFaults wsX3_isLatched := goodIn_r _ [34, 35, 36, 37, 38, 39, 40, 41, 64, 65, 66, 67] (by decide +kernel) (by decide +kernel)
set_option maxRecDepth 20000 in
theorem gX5_seeFaults_X3_isLatched : GoodIn wsX5_seeFaults (wsV RX5 92 RX3 yX3_isLatched wsX3_isLatched) := goodIn_app (goodIn_of _ (by decide +kernel)) ggX5_seeFaults_X3_isLatched
set_option maxRecDepth 20000 in
theorem ggX5_seeFaults_X3_latch : GoodIn wsX5_seeFaults wsX3_latch := goodIn_r _ [45, 35, 46, 47, 48, 36, 37, 38, 39, 40, 41, 64, 65, 66, 67] (by decide +kernel) (by decide +kernel)
set_option maxRecDepth 20000 in
theorem gX5_seeFaults_X3_latch : GoodIn wsX5_seeFaults (wsV RX5 167 RX3 yX3_latch wsX3_latch) := goodIn_app (goodIn_of _ (by decide +kernel)) ggX5_seeFaults_X3_latch
theorem dX5_seeFaults_0 : decode cX5_seeFaults 0 = .ok (.iconst 0, 1) := by decide +kernel
theorem dX5_seeFaults_1 : decode cX5_seeFaults 1 = .ok (.istore_n 3, 1) := by decide +kernel
theorem dX5_seeFaults_2 : decode cX5_seeFaults 2 = .ok (.iconst 0, 1) := by decide +kernel
theorem dX5_seeFaults_3 : decode cX5_seeFaults 3 = .ok (.istore 4, 2) := by decide +kernel
theorem dX5_seeFaults_5 : decode cX5_seeFaults 5 = .ok (.iload 4, 2) := by decide +kernel
theorem dX5_seeFaults_7 : decode cX5_seeFaults 7 = .ok (.iconst 3, 1) := by decide +kernel
theorem dX5_seeFaults_8 : decode cX5_seeFaults 8 = .ok (.if_icmp .ge 48, 3) := by decide +kernel
theorem dX5_seeFaults_11 : decode cX5_seeFaults 11 = .ok (.aload_n 0, 1) := by decide +kernel
theorem dX5_seeFaults_12 : decode cX5_seeFaults 12 = .ok (.iload 4, 2) := by decide +kernel
theorem dX5_seeFaults_14 : decode cX5_seeFaults 14 = .ok (.aload_n 2, 1) := by decide +kernel
theorem dX5_seeFaults_15 : decode cX5_seeFaults 15 = .ok (.invokevirtual 164, 3) := by decide +kernel
theorem dX5_seeFaults_18 : decode cX5_seeFaults 18 = .ok (.ifCond .eq 32, 3) := by decide +kernel
theorem dX5_seeFaults_21 : decode cX5_seeFaults 21 = .ok (.aload_n 0, 1) := by decide +kernel
theorem dX5_seeFaults_22 : decode cX5_seeFaults 22 = .ok (.getfield 33, 3) := by decide +kernel
theorem dX5_seeFaults_25 : decode cX5_seeFaults 25 = .ok (.iload 4, 2) := by decide +kernel
theorem dX5_seeFaults_27 : decode cX5_seeFaults 27 = .ok (.invokevirtual 92, 3) := by decide +kernel
theorem dX5_seeFaults_30 : decode cX5_seeFaults 30 = .ok (.ifCond .ne 20, 3) := by decide +kernel
theorem dX5_seeFaults_33 : decode cX5_seeFaults 33 = .ok (.aload_n 0, 1) := by decide +kernel
theorem dX5_seeFaults_34 : decode cX5_seeFaults 34 = .ok (.getfield 33, 3) := by decide +kernel
theorem dX5_seeFaults_37 : decode cX5_seeFaults 37 = .ok (.iload 4, 2) := by decide +kernel
theorem dX5_seeFaults_39 : decode cX5_seeFaults 39 = .ok (.iload_n 1, 1) := by decide +kernel
theorem dX5_seeFaults_40 : decode cX5_seeFaults 40 = .ok (.aload_n 0, 1) := by decide +kernel
theorem dX5_seeFaults_41 : decode cX5_seeFaults 41 = .ok (.getfield 51, 3) := by decide +kernel
theorem dX5_seeFaults_44 : decode cX5_seeFaults 44 = .ok (.invokevirtual 167, 3) := by decide +kernel
theorem dX5_seeFaults_47 : decode cX5_seeFaults 47 = .ok (.iinc 3 1, 3) := by decide +kernel
theorem dX5_seeFaults_50 : decode cX5_seeFaults 50 = .ok (.iinc 4 1, 3) := by decide +kernel
theorem dX5_seeFaults_53 : decode cX5_seeFaults 53 = .ok (.goto (-48), 3) := by decide +kernel
theorem dX5_seeFaults_56 : decode cX5_seeFaults 56 = .ok (.iload_n 3, 1) := by decide +kernel
theorem dX5_seeFaults_57 : decode cX5_seeFaults 57 = .ok (.ireturn, 1) := by decide +kernel
set_option maxRecDepth 20000 in
theorem ggX5_isSeen_X5_size : GoodIn wsX5_isSeen wsX5_size := goodIn_r _ [9, 10, 11, 12, 13, 14, 25, 26, 27, 28, 29, 30, 31, 32, 33, 34, 35, 36, 37] (by decide +kernel) (by decide +kernel)
set_option maxRecDepth 20000 in
theorem gX5_isSeen_X5_size : GoodIn wsX5_isSeen (wsV RX5 103 RX5 yX5_size wsX5_size) := goodIn_app (goodIn_of _ (by decide +kernel)) ggX5_isSeen_X5_size
set_option maxRecDepth 20000 in
theorem ggX5_isSeen_X1_value : GoodIn wsX5_isSeen wsX1_value := goodIn_r _ [19, 20, 21, 22, 23, 18, 24, 38, 39] (by decide +kernel) (by decide +kernel)
set_option maxRecDepth 20000 in
theorem gX5_isSeen_X1_value : GoodIn wsX5_isSeen (wsV RX5 107 RX1 yX1_value wsX1_value) := goodIn_app (goodIn_of _ (by decide +kernel)) ggX5_isSeen_X1_value
theorem dX5_isSeen_0 : decode cX5_isSeen 0 = .ok (.iload_n 1, 1) := by decide +kernel
theorem dX5_isSeen_1 : decode cX5_isSeen 1 = .ok (.lookupswitch 85 #[(0, 27), (1, 52)], 27) := by decide +kernel
theorem dX5_isSeen_28 : decode cX5_isSeen 28 = .ok (.aload_n 0, 1) := by decide +kernel
theorem dX5_isSeen_29 : decode cX5_isSeen 29 = .ok (.getfield 64, 3) := by decide +kernel
theorem dX5_isSeen_32 : decode cX5_isSeen 32 = .ok (.ifCond .ne 19, 3) := by decide +kernel
theorem dX5_isSeen_35 : decode cX5_isSeen 35 = .ok (.aload_n 0, 1) := by decide +kernel
theorem dX5_isSeen_36 : decode cX5_isSeen 36 = .ok (.invokevirtual 103, 3) := by decide +kernel
theorem dX5_isSeen_39 : decode cX5_isSeen 39 = .ok (.aload_n 2, 1) := by decide +kernel
theorem dX5_isSeen_40 : decode cX5_isSeen 40 = .ok (.iconst 2, 1) := by decide +kernel
theorem dX5_isSeen_41 : decode cX5_isSeen 41 = .ok (.invokevirtual 107, 3) := by decide +kernel
theorem dX5_isSeen_44 : decode cX5_isSeen 44 = .ok (.if_icmp .lt 7, 3) := by decide +kernel
theorem dX5_isSeen_47 : decode cX5_isSeen 47 = .ok (.iconst 1, 1) := by decide +kernel
theorem dX5_isSeen_48 : decode cX5_isSeen 48 = .ok (.goto 4, 3) := by decide +kernel
theorem dX5_isSeen_51 : decode cX5_isSeen 51 = .ok (.iconst 0, 1) := by decide +kernel
theorem dX5_isSeen_52 : decode cX5_isSeen 52 = .ok (.ireturn, 1) := by decide +kernel
theorem dX5_isSeen_53 : decode cX5_isSeen 53 = .ok (.aload_n 0, 1) := by decide +kernel
theorem dX5_isSeen_54 : decode cX5_isSeen 54 = .ok (.getfield 67, 3) := by decide +kernel
theorem dX5_isSeen_57 : decode cX5_isSeen 57 = .ok (.aload_n 2, 1) := by decide +kernel
theorem dX5_isSeen_58 : decode cX5_isSeen 58 = .ok (.iconst 3, 1) := by decide +kernel
theorem dX5_isSeen_59 : decode cX5_isSeen 59 = .ok (.invokevirtual 107, 3) := by decide +kernel
theorem dX5_isSeen_62 : decode cX5_isSeen 62 = .ok (.if_icmp .lt 22, 3) := by decide +kernel
theorem dX5_isSeen_65 : decode cX5_isSeen 65 = .ok (.aload_n 0, 1) := by decide +kernel
theorem dX5_isSeen_66 : decode cX5_isSeen 66 = .ok (.invokevirtual 103, 3) := by decide +kernel
theorem dX5_isSeen_69 : decode cX5_isSeen 69 = .ok (.aload_n 0, 1) := by decide +kernel
theorem dX5_isSeen_70 : decode cX5_isSeen 70 = .ok (.getfield 26, 3) := by decide +kernel
theorem dX5_isSeen_73 : decode cX5_isSeen 73 = .ok (.iconst 0, 1) := by decide +kernel
theorem dX5_isSeen_74 : decode cX5_isSeen 74 = .ok (.invokevirtual 107, 3) := by decide +kernel
theorem dX5_isSeen_77 : decode cX5_isSeen 77 = .ok (.if_icmp .ge 7, 3) := by decide +kernel
theorem dX5_isSeen_80 : decode cX5_isSeen 80 = .ok (.iconst 1, 1) := by decide +kernel
theorem dX5_isSeen_81 : decode cX5_isSeen 81 = .ok (.goto 4, 3) := by decide +kernel
theorem dX5_isSeen_84 : decode cX5_isSeen 84 = .ok (.iconst 0, 1) := by decide +kernel
theorem dX5_isSeen_85 : decode cX5_isSeen 85 = .ok (.ireturn, 1) := by decide +kernel
theorem dX5_isSeen_86 : decode cX5_isSeen 86 = .ok (.aload_n 0, 1) := by decide +kernel
theorem dX5_isSeen_87 : decode cX5_isSeen 87 = .ok (.getfield 54, 3) := by decide +kernel
theorem dX5_isSeen_90 : decode cX5_isSeen 90 = .ok (.aload_n 2, 1) := by decide +kernel
theorem dX5_isSeen_91 : decode cX5_isSeen 91 = .ok (.iconst 4, 1) := by decide +kernel
theorem dX5_isSeen_92 : decode cX5_isSeen 92 = .ok (.invokevirtual 107, 3) := by decide +kernel
theorem dX5_isSeen_95 : decode cX5_isSeen 95 = .ok (.if_icmp .lt 7, 3) := by decide +kernel
theorem dX5_isSeen_98 : decode cX5_isSeen 98 = .ok (.iconst 1, 1) := by decide +kernel
theorem dX5_isSeen_99 : decode cX5_isSeen 99 = .ok (.goto 4, 3) := by decide +kernel
theorem dX5_isSeen_102 : decode cX5_isSeen 102 = .ok (.iconst 0, 1) := by decide +kernel
theorem dX5_isSeen_103 : decode cX5_isSeen 103 = .ok (.ireturn, 1) := by decide +kernel

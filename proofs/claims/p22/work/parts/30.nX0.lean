set_option maxRecDepth 20000 in
theorem ggX0_init_X5_init : GoodIn wsX0_init wsX5_init := goodIn_r _ [19, 20, 2, 3, 21, 22, 23, 24, 25, 26, 10, 11, 27, 28, 29, 30, 31, 32, 33, 34, 35, 36, 37, 38, 39, 40, 41, 42, 43, 44, 45, 46, 47, 48, 49, 50, 51, 52, 53, 54, 88, 89, 90, 91, 92, 93, 94, 64, 65, 66, 67, 68, 69, 70, 71, 72, 73, 74, 75, 76, 82, 83, 95, 96, 97, 98] (by decide +kernel) (by decide +kernel)
set_option maxRecDepth 20000 in
theorem gX0_init_X5_init : GoodIn wsX0_init (wsX5_init) := ggX0_init_X5_init
set_option maxRecDepth 20000 in
theorem ggX0_init_X1_init : GoodIn wsX0_init wsX1_init := goodIn_r _ [38, 39, 2, 3, 40, 41, 42, 43, 44, 45, 46, 82, 83] (by decide +kernel) (by decide +kernel)
set_option maxRecDepth 20000 in
theorem gX0_init_X1_init : GoodIn wsX0_init (wsX1_init) := ggX0_init_X1_init
set_option maxRecDepth 20000 in
theorem ggX0_init_X6_init : GoodIn wsX0_init wsX6_init := goodIn_r _ [58, 59, 2, 3, 41, 60, 61, 62, 63, 84, 85, 86, 87] (by decide +kernel) (by decide +kernel)
set_option maxRecDepth 20000 in
theorem gX0_init_X6_init : GoodIn wsX0_init (wsX6_init) := ggX0_init_X6_init
theorem dX0_init_0 : decode cX0_init 0 = .ok (.aload_n 0, 1) := by decide +kernel
theorem dX0_init_1 : decode cX0_init 1 = .ok (.invokespecial 3, 3) := by decide +kernel
theorem dX0_init_4 : decode cX0_init 4 = .ok (.aload_n 0, 1) := by decide +kernel
theorem dX0_init_5 : decode cX0_init 5 = .ok (.new 9, 3) := by decide +kernel
theorem dX0_init_8 : decode cX0_init 8 = .ok (.dup, 1) := by decide +kernel
theorem dX0_init_9 : decode cX0_init 9 = .ok (.invokespecial 11, 3) := by decide +kernel
theorem dX0_init_12 : decode cX0_init 12 = .ok (.putfield 12, 3) := by decide +kernel
theorem dX0_init_15 : decode cX0_init 15 = .ok (.aload_n 0, 1) := by decide +kernel
theorem dX0_init_16 : decode cX0_init 16 = .ok (.new 9, 3) := by decide +kernel
theorem dX0_init_19 : decode cX0_init 19 = .ok (.dup, 1) := by decide +kernel
theorem dX0_init_20 : decode cX0_init 20 = .ok (.invokespecial 11, 3) := by decide +kernel
theorem dX0_init_23 : decode cX0_init 23 = .ok (.putfield 18, 3) := by decide +kernel
theorem dX0_init_26 : decode cX0_init 26 = .ok (.aload_n 0, 1) := by decide +kernel
theorem dX0_init_27 : decode cX0_init 27 = .ok (.new 21, 3) := by decide +kernel
theorem dX0_init_30 : decode cX0_init 30 = .ok (.dup, 1) := by decide +kernel
theorem dX0_init_31 : decode cX0_init 31 = .ok (.iconst 0, 1) := by decide +kernel
theorem dX0_init_32 : decode cX0_init 32 = .ok (.bipush 6, 2) := by decide +kernel
theorem dX0_init_34 : decode cX0_init 34 = .ok (.invokespecial 23, 3) := by decide +kernel
theorem dX0_init_37 : decode cX0_init 37 = .ok (.putfield 26, 3) := by decide +kernel
theorem dX0_init_40 : decode cX0_init 40 = .ok (.aload_n 0, 1) := by decide +kernel
theorem dX0_init_41 : decode cX0_init 41 = .ok (.new 30, 3) := by decide +kernel
theorem dX0_init_44 : decode cX0_init 44 = .ok (.dup, 1) := by decide +kernel
theorem dX0_init_45 : decode cX0_init 45 = .ok (.invokespecial 32, 3) := by decide +kernel
theorem dX0_init_48 : decode cX0_init 48 = .ok (.putfield 33, 3) := by decide +kernel
theorem dX0_init_51 : decode cX0_init 51 = .ok (.return_, 1) := by decide +kernel
set_option maxRecDepth 20000 in
theorem ggX0_copyFrom_X5_copyFrom : GoodIn wsX0_copyFrom wsX5_copyFrom := goodIn_r _ [10, 11, 12, 13, 14, 15, 16, 17, 18, 19, 20, 21, 22, 23, 24, 25, 26, 27, 28, 29, 30, 31, 32, 33, 34, 35, 36, 37, 38, 39, 40, 41, 42, 43, 44, 45, 46, 47, 48, 49, 50, 51, 52, 53, 54, 71, 72, 73, 74, 75, 76, 77, 78, 79, 80, 81, 82, 83, 84, 85, 86, 87, 88, 89, 90, 91, 92, 93, 94, 95, 96] (by decide +kernel) (by decide +kernel)
set_option maxRecDepth 20000 in
theorem gX0_copyFrom_X5_copyFrom : GoodIn wsX0_copyFrom (wsV RX0 37 RX5 yX5_copyFrom wsX5_copyFrom) := goodIn_app (goodIn_of _ (by decide +kernel)) ggX0_copyFrom_X5_copyFrom
set_option maxRecDepth 20000 in
theorem ggX0_copyFrom_X1_copyFrom : GoodIn wsX0_copyFrom wsX1_copyFrom := goodIn_r _ [40, 41, 42, 43, 44, 45, 91, 92] (by decide +kernel) (by decide +kernel)
set_option maxRecDepth 20000 in
theorem gX0_copyFrom_X1_copyFrom : GoodIn wsX0_copyFrom (wsV RX0 41 RX1 yX1_copyFrom wsX1_copyFrom) := goodIn_app (goodIn_of _ (by decide +kernel)) ggX0_copyFrom_X1_copyFrom
set_option maxRecDepth 20000 in
theorem ggX0_copyFrom_X6_copyFrom : GoodIn wsX0_copyFrom wsX6_copyFrom := goodIn_r _ [60, 61, 62, 43, 44, 45, 63, 64, 65, 97, 98, 99, 100] (by decide +kernel) (by decide +kernel)
set_option maxRecDepth 20000 in
theorem gX0_copyFrom_X6_copyFrom : GoodIn wsX0_copyFrom (wsV RX0 44 RX6 yX6_copyFrom wsX6_copyFrom) := goodIn_app (goodIn_of _ (by decide +kernel)) ggX0_copyFrom_X6_copyFrom
theorem dX0_copyFrom_0 : decode cX0_copyFrom 0 = .ok (.aload_n 0, 1) := by decide +kernel
theorem dX0_copyFrom_1 : decode cX0_copyFrom 1 = .ok (.getfield 12, 3) := by decide +kernel
theorem dX0_copyFrom_4 : decode cX0_copyFrom 4 = .ok (.aload_n 1, 1) := by decide +kernel
theorem dX0_copyFrom_5 : decode cX0_copyFrom 5 = .ok (.getfield 12, 3) := by decide +kernel
theorem dX0_copyFrom_8 : decode cX0_copyFrom 8 = .ok (.invokevirtual 37, 3) := by decide +kernel
theorem dX0_copyFrom_11 : decode cX0_copyFrom 11 = .ok (.aload_n 0, 1) := by decide +kernel
theorem dX0_copyFrom_12 : decode cX0_copyFrom 12 = .ok (.getfield 18, 3) := by decide +kernel
theorem dX0_copyFrom_15 : decode cX0_copyFrom 15 = .ok (.aload_n 1, 1) := by decide +kernel
theorem dX0_copyFrom_16 : decode cX0_copyFrom 16 = .ok (.getfield 18, 3) := by decide +kernel
theorem dX0_copyFrom_19 : decode cX0_copyFrom 19 = .ok (.invokevirtual 37, 3) := by decide +kernel
theorem dX0_copyFrom_22 : decode cX0_copyFrom 22 = .ok (.aload_n 0, 1) := by decide +kernel
theorem dX0_copyFrom_23 : decode cX0_copyFrom 23 = .ok (.getfield 26, 3) := by decide +kernel
theorem dX0_copyFrom_26 : decode cX0_copyFrom 26 = .ok (.aload_n 1, 1) := by decide +kernel
theorem dX0_copyFrom_27 : decode cX0_copyFrom 27 = .ok (.getfield 26, 3) := by decide +kernel
theorem dX0_copyFrom_30 : decode cX0_copyFrom 30 = .ok (.invokevirtual 41, 3) := by decide +kernel
theorem dX0_copyFrom_33 : decode cX0_copyFrom 33 = .ok (.aload_n 0, 1) := by decide +kernel
theorem dX0_copyFrom_34 : decode cX0_copyFrom 34 = .ok (.getfield 33, 3) := by decide +kernel
theorem dX0_copyFrom_37 : decode cX0_copyFrom 37 = .ok (.aload_n 1, 1) := by decide +kernel
theorem dX0_copyFrom_38 : decode cX0_copyFrom 38 = .ok (.getfield 33, 3) := by decide +kernel
theorem dX0_copyFrom_41 : decode cX0_copyFrom 41 = .ok (.invokevirtual 44, 3) := by decide +kernel
theorem dX0_copyFrom_44 : decode cX0_copyFrom 44 = .ok (.aload_n 0, 1) := by decide +kernel
theorem dX0_copyFrom_45 : decode cX0_copyFrom 45 = .ok (.aload_n 1, 1) := by decide +kernel
theorem dX0_copyFrom_46 : decode cX0_copyFrom 46 = .ok (.getfield 47, 3) := by decide +kernel
theorem dX0_copyFrom_49 : decode cX0_copyFrom 49 = .ok (.putfield 47, 3) := by decide +kernel
theorem dX0_copyFrom_52 : decode cX0_copyFrom 52 = .ok (.return_, 1) := by decide +kernel
theorem dX0_loadAt_0 : decode cX0_loadAt 0 = .ok (.iload_n 1, 1) := by decide +kernel
theorem dX0_loadAt_1 : decode cX0_loadAt 1 = .ok (.ifCond .ne 10, 3) := by decide +kernel
theorem dX0_loadAt_4 : decode cX0_loadAt 4 = .ok (.aload_n 0, 1) := by decide +kernel
theorem dX0_loadAt_5 : decode cX0_loadAt 5 = .ok (.getfield 12, 3) := by decide +kernel
theorem dX0_loadAt_8 : decode cX0_loadAt 8 = .ok (.goto 7, 3) := by decide +kernel
theorem dX0_loadAt_11 : decode cX0_loadAt 11 = .ok (.aload_n 0, 1) := by decide +kernel
theorem dX0_loadAt_12 : decode cX0_loadAt 12 = .ok (.getfield 18, 3) := by decide +kernel
theorem dX0_loadAt_15 : decode cX0_loadAt 15 = .ok (.areturn, 1) := by decide +kernel
set_option maxRecDepth 20000 in
theorem ggX0_legAt_X0_loadAt : GoodIn wsX0_legAt wsX0_loadAt := goodIn_r _ [5, 6, 7, 21, 22, 23, 24, 25] (by decide +kernel) (by decide +kernel)
set_option maxRecDepth 20000 in
theorem gX0_legAt_X0_loadAt : GoodIn wsX0_legAt (wsV RX0 51 RX0 yX0_loadAt wsX0_loadAt) := goodIn_app (goodIn_of _ (by decide +kernel)) ggX0_legAt_X0_loadAt
theorem dX0_legAt_0 : decode cX0_legAt 0 = .ok (.aload_n 0, 1) := by decide +kernel
theorem dX0_legAt_1 : decode cX0_legAt 1 = .ok (.iload_n 1, 1) := by decide +kernel
theorem dX0_legAt_2 : decode cX0_legAt 2 = .ok (.iconst 2, 1) := by decide +kernel
theorem dX0_legAt_3 : decode cX0_legAt 3 = .ok (.idiv, 1) := by decide +kernel
theorem dX0_legAt_4 : decode cX0_legAt 4 = .ok (.invokevirtual 51, 3) := by decide +kernel
theorem dX0_legAt_7 : decode cX0_legAt 7 = .ok (.astore_n 2, 1) := by decide +kernel
theorem dX0_legAt_8 : decode cX0_legAt 8 = .ok (.iload_n 1, 1) := by decide +kernel
theorem dX0_legAt_9 : decode cX0_legAt 9 = .ok (.iconst 2, 1) := by decide +kernel
theorem dX0_legAt_10 : decode cX0_legAt 10 = .ok (.irem, 1) := by decide +kernel
theorem dX0_legAt_11 : decode cX0_legAt 11 = .ok (.ifCond .ne 10, 3) := by decide +kernel
theorem dX0_legAt_14 : decode cX0_legAt 14 = .ok (.aload_n 2, 1) := by decide +kernel
theorem dX0_legAt_15 : decode cX0_legAt 15 = .ok (.getfield 55, 3) := by decide +kernel
theorem dX0_legAt_18 : decode cX0_legAt 18 = .ok (.goto 7, 3) := by decide +kernel
theorem dX0_legAt_21 : decode cX0_legAt 21 = .ok (.aload_n 2, 1) := by decide +kernel
theorem dX0_legAt_22 : decode cX0_legAt 22 = .ok (.getfield 59, 3) := by decide +kernel
theorem dX0_legAt_25 : decode cX0_legAt 25 = .ok (.areturn, 1) := by decide +kernel
set_option maxRecDepth 20000 in
theorem ggX0_wishOf_X0_loadAt : GoodIn wsX0_wishOf wsX0_loadAt := goodIn_r _ [5, 6, 7, 21, 22, 23, 24, 25] (by decide +kernel) (by decide +kernel)
set_option maxRecDepth 20000 in
theorem gX0_wishOf_X0_loadAt : GoodIn wsX0_wishOf (wsV RX0 51 RX0 yX0_loadAt wsX0_loadAt) := goodIn_app (goodIn_of _ (by decide +kernel)) ggX0_wishOf_X0_loadAt
set_option maxRecDepth 20000 in
theorem ggX0_wishOf_X5_firstWish : GoodIn wsX0_wishOf wsX5_firstWish := goodIn_r _ [12, 13, 14, 15, 16, 26, 27, 28, 29, 30, 31, 32, 33, 34, 35, 36, 37, 38, 39, 40, 41, 42, 43, 44, 45, 46, 47, 48, 49] (by decide +kernel) (by decide +kernel)
set_option maxRecDepth 20000 in
theorem gX0_wishOf_X5_firstWish : GoodIn wsX0_wishOf (wsV RX0 62 RX5 yX5_firstWish wsX5_firstWish) := goodIn_app (goodIn_of _ (by decide +kernel)) ggX0_wishOf_X5_firstWish
set_option maxRecDepth 20000 in
theorem ggX0_wishOf_X5_secondWish : GoodIn wsX0_wishOf wsX5_secondWish := goodIn_r _ [20, 13, 15, 26, 27, 28, 29, 30, 31, 32, 33, 34, 35, 36, 37, 38, 39, 40, 41, 42, 43, 44, 45, 46, 47, 48, 49] (by decide +kernel) (by decide +kernel)
set_option maxRecDepth 20000 in
theorem gX0_wishOf_X5_secondWish : GoodIn wsX0_wishOf (wsV RX0 66 RX5 yX5_secondWish wsX5_secondWish) := goodIn_app (goodIn_of _ (by decide +kernel)) ggX0_wishOf_X5_secondWish
theorem dX0_wishOf_0 : decode cX0_wishOf 0 = .ok (.aload_n 0, 1) := by decide +kernel
theorem dX0_wishOf_1 : decode cX0_wishOf 1 = .ok (.iload_n 1, 1) := by decide +kernel
theorem dX0_wishOf_2 : decode cX0_wishOf 2 = .ok (.iconst 2, 1) := by decide +kernel
theorem dX0_wishOf_3 : decode cX0_wishOf 3 = .ok (.idiv, 1) := by decide +kernel
theorem dX0_wishOf_4 : decode cX0_wishOf 4 = .ok (.invokevirtual 51, 3) := by decide +kernel
theorem dX0_wishOf_7 : decode cX0_wishOf 7 = .ok (.astore_n 2, 1) := by decide +kernel
theorem dX0_wishOf_8 : decode cX0_wishOf 8 = .ok (.iload_n 1, 1) := by decide +kernel
theorem dX0_wishOf_9 : decode cX0_wishOf 9 = .ok (.iconst 2, 1) := by decide +kernel
theorem dX0_wishOf_10 : decode cX0_wishOf 10 = .ok (.irem, 1) := by decide +kernel
theorem dX0_wishOf_11 : decode cX0_wishOf 11 = .ok (.ifCond .ne 10, 3) := by decide +kernel
theorem dX0_wishOf_14 : decode cX0_wishOf 14 = .ok (.aload_n 2, 1) := by decide +kernel
theorem dX0_wishOf_15 : decode cX0_wishOf 15 = .ok (.invokevirtual 62, 3) := by decide +kernel
theorem dX0_wishOf_18 : decode cX0_wishOf 18 = .ok (.goto 7, 3) := by decide +kernel
theorem dX0_wishOf_21 : decode cX0_wishOf 21 = .ok (.aload_n 2, 1) := by decide +kernel
theorem dX0_wishOf_22 : decode cX0_wishOf 22 = .ok (.invokevirtual 66, 3) := by decide +kernel
theorem dX0_wishOf_25 : decode cX0_wishOf 25 = .ok (.ireturn, 1) := by decide +kernel
theorem dX0_slotsInScope_0 : decode cX0_slotsInScope 0 = .ok (.aload_n 0, 1) := by decide +kernel
theorem dX0_slotsInScope_1 : decode cX0_slotsInScope 1 = .ok (.getfield 47, 3) := by decide +kernel
theorem dX0_slotsInScope_4 : decode cX0_slotsInScope 4 = .ok (.bipush 32, 2) := by decide +kernel
theorem dX0_slotsInScope_6 : decode cX0_slotsInScope 6 = .ok (.invokestatic 69, 3) := by decide +kernel
theorem dX0_slotsInScope_9 : decode cX0_slotsInScope 9 = .ok (.ireturn, 1) := by decide +kernel
set_option maxRecDepth 20000 in
theorem ggX0_pass_X5_pass : GoodIn wsX0_pass wsX5_pass := goodIn_r _ [10, 11, 12, 13, 14, 15, 16, 9, 17, 18, 19, 20, 21, 22, 23, 24, 25, 26, 27, 28, 29, 30, 31, 32, 33, 34, 35, 36, 37, 38, 39, 40, 41, 42, 43, 44, 45, 46, 47, 48, 49, 50, 51, 52, 53, 54, 55, 56, 57, 58, 59, 60, 61, 62, 63, 64, 65, 66, 67, 68, 69, 70, 71, 72, 73, 74, 75, 76, 77, 78, 79, 80, 81, 82, 83, 84, 85, 86, 87, 88, 89, 90, 91, 92, 93, 94, 95, 96, 97, 98, 99, 100, 101, 102, 103, 104, 105, 106, 107, 108, 109, 110, 111, 112, 113, 114, 115, 116, 117, 118, 119, 120, 121, 122, 123, 124, 125, 126, 127, 128, 129, 130, 131, 132, 133, 134, 155, 156, 157, 158, 159, 160, 161, 162, 163, 164, 165, 166, 167, 168, 169, 170, 171, 172, 173, 174, 175, 176, 177, 178, 179, 180] (by decide +kernel) (by decide +kernel)
set_option maxRecDepth 20000 in
theorem gX0_pass_X5_pass : GoodIn wsX0_pass (wsV RX0 75 RX5 yX5_pass wsX5_pass) := goodIn_app (goodIn_of _ (by decide +kernel)) ggX0_pass_X5_pass
set_option maxRecDepth 20000 in
theorem ggX0_pass_X6_keep : GoodIn wsX0_pass wsX6_keep := goodIn_r _ [139, 140, 141, 142, 143, 144, 145, 146, 147, 148, 123, 149, 181, 182, 183, 184, 155, 156, 157, 158, 159, 160, 161, 162, 163, 164, 165, 166, 167, 174, 175, 176, 177, 178, 179, 180] (by decide +kernel) (by decide +kernel)
set_option maxRecDepth 20000 in
theorem gX0_pass_X6_keep : GoodIn wsX0_pass (wsV RX0 79 RX6 yX6_keep wsX6_keep) := goodIn_app (goodIn_of _ (by decide +kernel)) ggX0_pass_X6_keep
theorem dX0_pass_0 : decode cX0_pass 0 = .ok (.iconst 0, 1) := by decide +kernel
theorem dX0_pass_1 : decode cX0_pass 1 = .ok (.istore_n 2, 1) := by decide +kernel
theorem dX0_pass_2 : decode cX0_pass 2 = .ok (.iconst 0, 1) := by decide +kernel
theorem dX0_pass_3 : decode cX0_pass 3 = .ok (.istore_n 3, 1) := by decide +kernel
theorem dX0_pass_4 : decode cX0_pass 4 = .ok (.iload_n 3, 1) := by decide +kernel
theorem dX0_pass_5 : decode cX0_pass 5 = .ok (.iload_n 1, 1) := by decide +kernel
theorem dX0_pass_6 : decode cX0_pass 6 = .ok (.if_icmp .ge 74, 3) := by decide +kernel
theorem dX0_pass_9 : decode cX0_pass 9 = .ok (.iload_n 2, 1) := by decide +kernel
theorem dX0_pass_10 : decode cX0_pass 10 = .ok (.aload_n 0, 1) := by decide +kernel
theorem dX0_pass_11 : decode cX0_pass 11 = .ok (.getfield 12, 3) := by decide +kernel
theorem dX0_pass_14 : decode cX0_pass 14 = .ok (.aload_n 0, 1) := by decide +kernel
theorem dX0_pass_15 : decode cX0_pass 15 = .ok (.getfield 47, 3) := by decide +kernel
theorem dX0_pass_18 : decode cX0_pass 18 = .ok (.aload_n 0, 1) := by decide +kernel
theorem dX0_pass_19 : decode cX0_pass 19 = .ok (.getfield 26, 3) := by decide +kernel
theorem dX0_pass_22 : decode cX0_pass 22 = .ok (.invokevirtual 75, 3) := by decide +kernel
theorem dX0_pass_25 : decode cX0_pass 25 = .ok (.iadd, 1) := by decide +kernel
theorem dX0_pass_26 : decode cX0_pass 26 = .ok (.istore_n 2, 1) := by decide +kernel
theorem dX0_pass_27 : decode cX0_pass 27 = .ok (.iload_n 2, 1) := by decide +kernel
theorem dX0_pass_28 : decode cX0_pass 28 = .ok (.aload_n 0, 1) := by decide +kernel
theorem dX0_pass_29 : decode cX0_pass 29 = .ok (.getfield 18, 3) := by decide +kernel
theorem dX0_pass_32 : decode cX0_pass 32 = .ok (.aload_n 0, 1) := by decide +kernel
theorem dX0_pass_33 : decode cX0_pass 33 = .ok (.getfield 47, 3) := by decide +kernel
theorem dX0_pass_36 : decode cX0_pass 36 = .ok (.aload_n 0, 1) := by decide +kernel
theorem dX0_pass_37 : decode cX0_pass 37 = .ok (.getfield 26, 3) := by decide +kernel
theorem dX0_pass_40 : decode cX0_pass 40 = .ok (.invokevirtual 75, 3) := by decide +kernel
theorem dX0_pass_43 : decode cX0_pass 43 = .ok (.iadd, 1) := by decide +kernel
theorem dX0_pass_44 : decode cX0_pass 44 = .ok (.istore_n 2, 1) := by decide +kernel
theorem dX0_pass_45 : decode cX0_pass 45 = .ok (.aload_n 0, 1) := by decide +kernel
theorem dX0_pass_46 : decode cX0_pass 46 = .ok (.getfield 33, 3) := by decide +kernel
theorem dX0_pass_49 : decode cX0_pass 49 = .ok (.aload_n 0, 1) := by decide +kernel
theorem dX0_pass_50 : decode cX0_pass 50 = .ok (.getfield 47, 3) := by decide +kernel
theorem dX0_pass_53 : decode cX0_pass 53 = .ok (.aload_n 0, 1) := by decide +kernel
theorem dX0_pass_54 : decode cX0_pass 54 = .ok (.getfield 12, 3) := by decide +kernel
theorem dX0_pass_57 : decode cX0_pass 57 = .ok (.aload_n 0, 1) := by decide +kernel
theorem dX0_pass_58 : decode cX0_pass 58 = .ok (.getfield 18, 3) := by decide +kernel
theorem dX0_pass_61 : decode cX0_pass 61 = .ok (.invokevirtual 79, 3) := by decide +kernel
theorem dX0_pass_64 : decode cX0_pass 64 = .ok (.aload_n 0, 1) := by decide +kernel
theorem dX0_pass_65 : decode cX0_pass 65 = .ok (.dup, 1) := by decide +kernel
theorem dX0_pass_66 : decode cX0_pass 66 = .ok (.getfield 47, 3) := by decide +kernel
theorem dX0_pass_69 : decode cX0_pass 69 = .ok (.iconst 1, 1) := by decide +kernel
theorem dX0_pass_70 : decode cX0_pass 70 = .ok (.iadd, 1) := by decide +kernel
theorem dX0_pass_71 : decode cX0_pass 71 = .ok (.putfield 47, 3) := by decide +kernel
theorem dX0_pass_74 : decode cX0_pass 74 = .ok (.iinc 3 1, 3) := by decide +kernel
theorem dX0_pass_77 : decode cX0_pass 77 = .ok (.goto (-73), 3) := by decide +kernel
theorem dX0_pass_80 : decode cX0_pass 80 = .ok (.iload_n 2, 1) := by decide +kernel
theorem dX0_pass_81 : decode cX0_pass 81 = .ok (.ireturn, 1) := by decide +kernel

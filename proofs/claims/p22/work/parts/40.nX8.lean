set_option maxRecDepth 20000 in
theorem ggX8_init_X0_init : GoodIn wsX8_init wsX0_init := goodIn_r _ [19, 20, 2, 3, 21, 22, 23, 24, 25, 26, 27, 28, 29, 30, 31, 32, 33, 34, 35, 36, 37, 38, 39, 40, 41, 42, 43, 44, 45, 46, 47, 48, 49, 50, 51, 52, 53, 54, 55, 56, 57, 58, 59, 60, 61, 62, 63, 64, 65, 66, 67, 68, 69, 70, 71, 72, 73, 74, 75, 76, 77, 78, 79, 80, 108, 109, 110, 111, 112, 113, 114, 115, 116, 117, 118, 119, 120, 94, 95, 96, 97, 98, 121, 122, 123, 124, 125, 126, 127, 128, 129, 130, 131, 132, 133, 134, 135, 136, 137] (by decide +kernel) (by decide +kernel)
set_option maxRecDepth 20000 in
theorem gX8_init_X0_init : GoodIn wsX8_init (wsX0_init) := ggX8_init_X0_init
set_option maxRecDepth 20000 in
theorem ggX8_init_X2_init : GoodIn wsX8_init wsX2_init := goodIn_r _ [83, 84, 2, 3, 85, 86, 5, 6, 87, 18, 19, 20, 21, 22, 23, 24, 25, 26, 27, 28, 29, 30, 31, 32, 33, 34, 35, 36, 37, 38, 39, 40, 41, 42, 43, 44, 45, 46, 47, 48, 49, 50, 51, 52, 53, 54, 55, 56, 57, 58, 59, 60, 61, 62, 63, 64, 65, 66, 67, 68, 69, 70, 71, 72, 73, 74, 75, 76, 77, 78, 79, 80, 103, 104, 105, 94, 95, 96, 97, 98, 108, 109, 110, 111, 112, 113, 114, 115, 116, 117, 118, 119, 120, 121, 122, 123, 124, 125, 126, 127, 128, 129, 130, 131, 132, 133, 134, 135, 136, 137] (by decide +kernel) (by decide +kernel)
set_option maxRecDepth 20000 in
theorem gX8_init_X2_init : GoodIn wsX8_init (wsX2_init) := ggX8_init_X2_init
set_option maxRecDepth 20000 in
theorem ggX8_init_X7_init : GoodIn wsX8_init wsX7_init := goodIn_r _ [90, 91, 2, 3, 92, 93, 106, 107] (by decide +kernel) (by decide +kernel)
set_option maxRecDepth 20000 in
theorem gX8_init_X7_init : GoodIn wsX8_init (wsX7_init) := ggX8_init_X7_init
theorem dX8_init_0 : decode cX8_init 0 = .ok (.aload_n 0, 1) := by decide +kernel
theorem dX8_init_1 : decode cX8_init 1 = .ok (.invokespecial 1, 3) := by decide +kernel
theorem dX8_init_4 : decode cX8_init 4 = .ok (.aload_n 0, 1) := by decide +kernel
theorem dX8_init_5 : decode cX8_init 5 = .ok (.new 7, 3) := by decide +kernel
theorem dX8_init_8 : decode cX8_init 8 = .ok (.dup, 1) := by decide +kernel
theorem dX8_init_9 : decode cX8_init 9 = .ok (.invokespecial 9, 3) := by decide +kernel
theorem dX8_init_12 : decode cX8_init 12 = .ok (.putfield 10, 3) := by decide +kernel
theorem dX8_init_15 : decode cX8_init 15 = .ok (.aload_n 0, 1) := by decide +kernel
theorem dX8_init_16 : decode cX8_init 16 = .ok (.new 7, 3) := by decide +kernel
theorem dX8_init_19 : decode cX8_init 19 = .ok (.dup, 1) := by decide +kernel
theorem dX8_init_20 : decode cX8_init 20 = .ok (.invokespecial 9, 3) := by decide +kernel
theorem dX8_init_23 : decode cX8_init 23 = .ok (.putfield 16, 3) := by decide +kernel
theorem dX8_init_26 : decode cX8_init 26 = .ok (.aload_n 0, 1) := by decide +kernel
theorem dX8_init_27 : decode cX8_init 27 = .ok (.new 19, 3) := by decide +kernel
theorem dX8_init_30 : decode cX8_init 30 = .ok (.dup, 1) := by decide +kernel
theorem dX8_init_31 : decode cX8_init 31 = .ok (.invokespecial 21, 3) := by decide +kernel
theorem dX8_init_34 : decode cX8_init 34 = .ok (.putfield 22, 3) := by decide +kernel
theorem dX8_init_37 : decode cX8_init 37 = .ok (.aload_n 0, 1) := by decide +kernel
theorem dX8_init_38 : decode cX8_init 38 = .ok (.new 26, 3) := by decide +kernel
theorem dX8_init_41 : decode cX8_init 41 = .ok (.dup, 1) := by decide +kernel
theorem dX8_init_42 : decode cX8_init 42 = .ok (.invokespecial 28, 3) := by decide +kernel
theorem dX8_init_45 : decode cX8_init 45 = .ok (.putfield 29, 3) := by decide +kernel
theorem dX8_init_48 : decode cX8_init 48 = .ok (.return_, 1) := by decide +kernel
set_option maxRecDepth 20000 in
theorem ggX8_set_X1_takes : GoodIn wsX8_set wsX1_takes := goodIn_r _ [8, 9, 10, 11, 12, 7, 13, 14, 15, 16, 17, 111, 112] (by decide +kernel) (by decide +kernel)
set_option maxRecDepth 20000 in
theorem gX8_set_X1_takes : GoodIn wsX8_set (wsV RX8 37 RX1 yX1_takes wsX1_takes) := goodIn_app (goodIn_of _ (by decide +kernel)) ggX8_set_X1_takes
set_option maxRecDepth 20000 in
theorem ggX8_set_X2_record : GoodIn wsX8_set wsX2_record := goodIn_r _ [22, 23, 24, 25, 26, 27, 28, 29, 30, 31, 32, 33, 34, 35, 36, 37, 38, 39, 40, 41, 42, 43, 44, 45, 46, 47, 48, 49, 50, 51, 52, 53, 54, 55, 56, 57, 58, 59, 60, 61, 62, 63, 64, 65, 66, 67, 68, 7, 69, 14, 70, 71, 72, 73, 74, 75, 76, 77, 78, 79, 80, 81, 82, 83, 84, 85, 86, 87, 88, 89, 90, 91, 92, 93, 113, 114, 115, 106, 107, 108, 109, 110, 116, 117, 118, 119, 120, 121, 122, 123, 124, 125, 126, 127, 128, 129, 130, 131, 132, 133, 134, 135, 111, 112, 136, 137, 138, 139, 140, 141, 142, 143] (by decide +kernel) (by decide +kernel)
set_option maxRecDepth 20000 in
theorem gX8_set_X2_record : GoodIn wsX8_set (wsV RX8 44 RX2 yX2_record wsX2_record) := goodIn_app (goodIn_of _ (by decide +kernel)) ggX8_set_X2_record
set_option maxRecDepth 20000 in
theorem ggX8_set_X1_turn : GoodIn wsX8_set wsX1_turn := goodIn_r _ [97, 14, 98, 99, 100, 7, 101, 10, 11, 12, 13, 111, 112] (by decide +kernel) (by decide +kernel)
set_option maxRecDepth 20000 in
theorem gX8_set_X1_turn : GoodIn wsX8_set (wsV RX8 48 RX1 yX1_turn wsX1_turn) := goodIn_app (goodIn_of _ (by decide +kernel)) ggX8_set_X1_turn
theorem dX8_set_0 : decode cX8_set 0 = .ok (.aload_n 0, 1) := by decide +kernel
theorem dX8_set_1 : decode cX8_set 1 = .ok (.getfield 10, 3) := by decide +kernel
theorem dX8_set_4 : decode cX8_set 4 = .ok (.getfield 33, 3) := by decide +kernel
theorem dX8_set_7 : decode cX8_set 7 = .ok (.iload_n 1, 1) := by decide +kernel
theorem dX8_set_8 : decode cX8_set 8 = .ok (.iload_n 2, 1) := by decide +kernel
theorem dX8_set_9 : decode cX8_set 9 = .ok (.invokevirtual 37, 3) := by decide +kernel
theorem dX8_set_12 : decode cX8_set 12 = .ok (.ifCond .ne 6, 3) := by decide +kernel
theorem dX8_set_15 : decode cX8_set 15 = .ok (.ldc 43, 2) := by decide +kernel
theorem dX8_set_17 : decode cX8_set 17 = .ok (.ireturn, 1) := by decide +kernel
theorem dX8_set_18 : decode cX8_set 18 = .ok (.aload_n 0, 1) := by decide +kernel
theorem dX8_set_19 : decode cX8_set 19 = .ok (.getfield 22, 3) := by decide +kernel
theorem dX8_set_22 : decode cX8_set 22 = .ok (.aload_n 0, 1) := by decide +kernel
theorem dX8_set_23 : decode cX8_set 23 = .ok (.getfield 10, 3) := by decide +kernel
theorem dX8_set_26 : decode cX8_set 26 = .ok (.invokevirtual 44, 3) := by decide +kernel
theorem dX8_set_29 : decode cX8_set 29 = .ok (.aload_n 0, 1) := by decide +kernel
theorem dX8_set_30 : decode cX8_set 30 = .ok (.getfield 10, 3) := by decide +kernel
theorem dX8_set_33 : decode cX8_set 33 = .ok (.getfield 33, 3) := by decide +kernel
theorem dX8_set_36 : decode cX8_set 36 = .ok (.iload_n 1, 1) := by decide +kernel
theorem dX8_set_37 : decode cX8_set 37 = .ok (.iload_n 2, 1) := by decide +kernel
theorem dX8_set_38 : decode cX8_set 38 = .ok (.invokevirtual 48, 3) := by decide +kernel
theorem dX8_set_41 : decode cX8_set 41 = .ok (.ireturn, 1) := by decide +kernel
set_option maxRecDepth 20000 in
theorem ggX8_setLoad_X8_isLoad : GoodIn wsX8_setLoad wsX8_isLoad := goodIn_r _ [7, 8, 9, 6, 10] (by decide +kernel) (by decide +kernel)
set_option maxRecDepth 20000 in
theorem gX8_setLoad_X8_isLoad : GoodIn wsX8_setLoad (va_wsS RX8 52 yX8_isLoad wsX8_isLoad) := goodIn_app (goodIn_of _ (by decide +kernel)) ggX8_setLoad_X8_isLoad
set_option maxRecDepth 20000 in
theorem ggX8_setLoad_X0_loadAt : GoodIn wsX8_setLoad wsX0_loadAt := goodIn_r _ [15, 16, 17, 127, 128, 129, 130, 131] (by decide +kernel) (by decide +kernel)
set_option maxRecDepth 20000 in
theorem gX8_setLoad_X0_loadAt : GoodIn wsX8_setLoad (wsV RX8 56 RX0 yX0_loadAt wsX0_loadAt) := goodIn_app (goodIn_of _ (by decide +kernel)) ggX8_setLoad_X0_loadAt
set_option maxRecDepth 20000 in
theorem ggX8_setLoad_X1_takes : GoodIn wsX8_setLoad wsX1_takes := goodIn_r _ [22, 23, 24, 25, 26, 21, 27, 28, 9, 6, 10, 132, 133] (by decide +kernel) (by decide +kernel)
set_option maxRecDepth 20000 in
theorem gX8_setLoad_X1_takes : GoodIn wsX8_setLoad (wsV RX8 37 RX1 yX1_takes wsX1_takes) := goodIn_app (goodIn_of _ (by decide +kernel)) ggX8_setLoad_X1_takes
set_option maxRecDepth 20000 in
theorem ggX8_setLoad_X2_record : GoodIn wsX8_setLoad wsX2_record := goodIn_r _ [33, 34, 35, 36, 37, 38, 39, 14, 40, 16, 17, 41, 42, 43, 44, 45, 46, 47, 48, 49, 50, 51, 52, 53, 54, 55, 56, 57, 58, 59, 60, 61, 62, 63, 64, 65, 66, 67, 68, 69, 70, 71, 72, 73, 74, 75, 76, 21, 77, 28, 78, 79, 80, 81, 82, 83, 84, 85, 86, 87, 88, 89, 90, 91, 92, 93, 94, 95, 96, 97, 98, 99, 100, 101, 134, 135, 136, 127, 128, 129, 130, 131, 114, 115, 116, 117, 118, 119, 120, 121, 122, 123, 124, 125, 126, 137, 138, 139, 140, 141, 142, 143, 132, 133, 144, 145, 146, 147, 148, 149, 150, 151] (by decide +kernel) (by decide +kernel)
set_option maxRecDepth 20000 in
theorem gX8_setLoad_X2_record : GoodIn wsX8_setLoad (wsV RX8 44 RX2 yX2_record wsX2_record) := goodIn_app (goodIn_of _ (by decide +kernel)) ggX8_setLoad_X2_record
set_option maxRecDepth 20000 in
theorem ggX8_setLoad_X1_turn : GoodIn wsX8_setLoad wsX1_turn := goodIn_r _ [105, 28, 106, 107, 108, 21, 109, 24, 25, 26, 27, 132, 133] (by decide +kernel) (by decide +kernel)
set_option maxRecDepth 20000 in
theorem gX8_setLoad_X1_turn : GoodIn wsX8_setLoad (wsV RX8 48 RX1 yX1_turn wsX1_turn) := goodIn_app (goodIn_of _ (by decide +kernel)) ggX8_setLoad_X1_turn
theorem dX8_setLoad_0 : decode cX8_setLoad 0 = .ok (.iload_n 1, 1) := by decide +kernel
theorem dX8_setLoad_1 : decode cX8_setLoad 1 = .ok (.invokestatic 52, 3) := by decide +kernel
theorem dX8_setLoad_4 : decode cX8_setLoad 4 = .ok (.ifCond .eq 22, 3) := by decide +kernel
theorem dX8_setLoad_7 : decode cX8_setLoad 7 = .ok (.aload_n 0, 1) := by decide +kernel
theorem dX8_setLoad_8 : decode cX8_setLoad 8 = .ok (.getfield 10, 3) := by decide +kernel
theorem dX8_setLoad_11 : decode cX8_setLoad 11 = .ok (.iload_n 1, 1) := by decide +kernel
theorem dX8_setLoad_12 : decode cX8_setLoad 12 = .ok (.invokevirtual 56, 3) := by decide +kernel
theorem dX8_setLoad_15 : decode cX8_setLoad 15 = .ok (.getfield 60, 3) := by decide +kernel
theorem dX8_setLoad_18 : decode cX8_setLoad 18 = .ok (.iload_n 2, 1) := by decide +kernel
theorem dX8_setLoad_19 : decode cX8_setLoad 19 = .ok (.iload_n 3, 1) := by decide +kernel
theorem dX8_setLoad_20 : decode cX8_setLoad 20 = .ok (.invokevirtual 37, 3) := by decide +kernel
theorem dX8_setLoad_23 : decode cX8_setLoad 23 = .ok (.ifCond .ne 6, 3) := by decide +kernel
theorem dX8_setLoad_26 : decode cX8_setLoad 26 = .ok (.ldc 43, 2) := by decide +kernel
theorem dX8_setLoad_28 : decode cX8_setLoad 28 = .ok (.ireturn, 1) := by decide +kernel
theorem dX8_setLoad_29 : decode cX8_setLoad 29 = .ok (.aload_n 0, 1) := by decide +kernel
theorem dX8_setLoad_30 : decode cX8_setLoad 30 = .ok (.getfield 22, 3) := by decide +kernel
theorem dX8_setLoad_33 : decode cX8_setLoad 33 = .ok (.aload_n 0, 1) := by decide +kernel
theorem dX8_setLoad_34 : decode cX8_setLoad 34 = .ok (.getfield 10, 3) := by decide +kernel
theorem dX8_setLoad_37 : decode cX8_setLoad 37 = .ok (.invokevirtual 44, 3) := by decide +kernel
theorem dX8_setLoad_40 : decode cX8_setLoad 40 = .ok (.aload_n 0, 1) := by decide +kernel
theorem dX8_setLoad_41 : decode cX8_setLoad 41 = .ok (.getfield 10, 3) := by decide +kernel
theorem dX8_setLoad_44 : decode cX8_setLoad 44 = .ok (.iload_n 1, 1) := by decide +kernel
theorem dX8_setLoad_45 : decode cX8_setLoad 45 = .ok (.invokevirtual 56, 3) := by decide +kernel
theorem dX8_setLoad_48 : decode cX8_setLoad 48 = .ok (.getfield 60, 3) := by decide +kernel
theorem dX8_setLoad_51 : decode cX8_setLoad 51 = .ok (.iload_n 2, 1) := by decide +kernel
theorem dX8_setLoad_52 : decode cX8_setLoad 52 = .ok (.iload_n 3, 1) := by decide +kernel
theorem dX8_setLoad_53 : decode cX8_setLoad 53 = .ok (.invokevirtual 48, 3) := by decide +kernel
theorem dX8_setLoad_56 : decode cX8_setLoad 56 = .ok (.ireturn, 1) := by decide +kernel
set_option maxRecDepth 20000 in
theorem ggX8_command_X8_isLeg : GoodIn wsX8_command wsX8_isLeg := goodIn_r _ [7, 8, 9, 6, 10] (by decide +kernel) (by decide +kernel)
set_option maxRecDepth 20000 in
theorem gX8_command_X8_isLeg : GoodIn wsX8_command (va_wsS RX8 63 yX8_isLeg wsX8_isLeg) := goodIn_app (goodIn_of _ (by decide +kernel)) ggX8_command_X8_isLeg
set_option maxRecDepth 20000 in
theorem ggX8_command_X8_isWithin : GoodIn wsX8_command wsX8_isWithin := goodIn_r _ [10] (by decide +kernel) (by decide +kernel)
set_option maxRecDepth 20000 in
theorem gX8_command_X8_isWithin : GoodIn wsX8_command (va_wsS RX8 66 yX8_isWithin wsX8_isWithin) := goodIn_app (goodIn_of _ (by decide +kernel)) ggX8_command_X8_isWithin
set_option maxRecDepth 20000 in
theorem ggX8_command_X2_record : GoodIn wsX8_command wsX2_record := goodIn_r _ [15, 16, 17, 18, 19, 20, 21, 22, 23, 24, 25, 26, 27, 28, 29, 30, 31, 32, 33, 34, 35, 36, 37, 38, 39, 40, 41, 42, 43, 44, 45, 46, 47, 48, 49, 50, 51, 52, 53, 54, 55, 56, 57, 58, 59, 60, 61, 62, 63, 64, 65, 66, 67, 68, 69, 70, 71, 72, 73, 74, 75, 76, 77, 78, 79, 80, 81, 82, 83, 84, 85, 86, 87, 88, 108, 109, 110, 111, 112, 113, 114, 115, 116, 117, 118, 119, 120, 121, 122, 123, 124, 125, 126, 127, 128, 101, 102, 103, 104, 105, 106, 107, 129, 130, 131, 132, 133, 134, 135, 136, 137, 138] (by decide +kernel) (by decide +kernel)
set_option maxRecDepth 20000 in
theorem gX8_command_X2_record : GoodIn wsX8_command (wsV RX8 44 RX2 yX2_record wsX2_record) := goodIn_app (goodIn_of _ (by decide +kernel)) ggX8_command_X2_record
set_option maxRecDepth 20000 in
theorem ggX8_command_X0_legAt : GoodIn wsX8_command wsX0_legAt := goodIn_r _ [92, 93, 94, 95, 22, 96, 24, 25, 116, 117, 118, 119, 120, 121, 122, 123, 124, 125, 126, 127, 128, 111, 112, 113, 114, 115] (by decide +kernel) (by decide +kernel)
set_option maxRecDepth 20000 in
theorem gX8_command_X0_legAt : GoodIn wsX8_command (wsV RX8 70 RX0 yX0_legAt wsX0_legAt) := goodIn_app (goodIn_of _ (by decide +kernel)) ggX8_command_X0_legAt
theorem dX8_command_0 : decode cX8_command 0 = .ok (.iload_n 1, 1) := by decide +kernel
theorem dX8_command_1 : decode cX8_command 1 = .ok (.invokestatic 63, 3) := by decide +kernel
theorem dX8_command_4 : decode cX8_command 4 = .ok (.ifCond .eq 12, 3) := by decide +kernel
theorem dX8_command_7 : decode cX8_command 7 = .ok (.iload_n 2, 1) := by decide +kernel
theorem dX8_command_8 : decode cX8_command 8 = .ok (.iconst 0, 1) := by decide +kernel
theorem dX8_command_9 : decode cX8_command 9 = .ok (.iconst 2, 1) := by decide +kernel
theorem dX8_command_10 : decode cX8_command 10 = .ok (.invokestatic 66, 3) := by decide +kernel
theorem dX8_command_13 : decode cX8_command 13 = .ok (.ifCond .ne 6, 3) := by decide +kernel
theorem dX8_command_16 : decode cX8_command 16 = .ok (.ldc 43, 2) := by decide +kernel
theorem dX8_command_18 : decode cX8_command 18 = .ok (.ireturn, 1) := by decide +kernel
theorem dX8_command_19 : decode cX8_command 19 = .ok (.aload_n 0, 1) := by decide +kernel
theorem dX8_command_20 : decode cX8_command 20 = .ok (.getfield 22, 3) := by decide +kernel
theorem dX8_command_23 : decode cX8_command 23 = .ok (.aload_n 0, 1) := by decide +kernel
theorem dX8_command_24 : decode cX8_command 24 = .ok (.getfield 10, 3) := by decide +kernel
theorem dX8_command_27 : decode cX8_command 27 = .ok (.invokevirtual 44, 3) := by decide +kernel
theorem dX8_command_30 : decode cX8_command 30 = .ok (.aload_n 0, 1) := by decide +kernel
theorem dX8_command_31 : decode cX8_command 31 = .ok (.getfield 10, 3) := by decide +kernel
theorem dX8_command_34 : decode cX8_command 34 = .ok (.iload_n 1, 1) := by decide +kernel
theorem dX8_command_35 : decode cX8_command 35 = .ok (.invokevirtual 70, 3) := by decide +kernel
theorem dX8_command_38 : decode cX8_command 38 = .ok (.astore_n 3, 1) := by decide +kernel
theorem dX8_command_39 : decode cX8_command 39 = .ok (.aload_n 3, 1) := by decide +kernel
theorem dX8_command_40 : decode cX8_command 40 = .ok (.getfield 74, 3) := by decide +kernel
theorem dX8_command_43 : decode cX8_command 43 = .ok (.istore 4, 2) := by decide +kernel
theorem dX8_command_45 : decode cX8_command 45 = .ok (.aload_n 3, 1) := by decide +kernel
theorem dX8_command_46 : decode cX8_command 46 = .ok (.iload_n 2, 1) := by decide +kernel
theorem dX8_command_47 : decode cX8_command 47 = .ok (.putfield 74, 3) := by decide +kernel
theorem dX8_command_50 : decode cX8_command 50 = .ok (.iload 4, 2) := by decide +kernel
theorem dX8_command_52 : decode cX8_command 52 = .ok (.ireturn, 1) := by decide +kernel
set_option maxRecDepth 20000 in
theorem ggX8_chop_X8_isLoad : GoodIn wsX8_chop wsX8_isLoad := goodIn_r _ [7, 8, 9, 6, 10] (by decide +kernel) (by decide +kernel)
set_option maxRecDepth 20000 in
theorem gX8_chop_X8_isLoad : GoodIn wsX8_chop (va_wsS RX8 52 yX8_isLoad wsX8_isLoad) := goodIn_app (goodIn_of _ (by decide +kernel)) ggX8_chop_X8_isLoad
set_option maxRecDepth 20000 in
theorem ggX8_chop_X8_isWithin : GoodIn wsX8_chop wsX8_isWithin := goodIn_r _ [10] (by decide +kernel) (by decide +kernel)
set_option maxRecDepth 20000 in
theorem gX8_chop_X8_isWithin : GoodIn wsX8_chop (va_wsS RX8 66 yX8_isWithin wsX8_isWithin) := goodIn_app (goodIn_of _ (by decide +kernel)) ggX8_chop_X8_isWithin
set_option maxRecDepth 20000 in
theorem ggX8_chop_X2_record : GoodIn wsX8_chop wsX2_record := goodIn_r _ [15, 16, 17, 18, 19, 20, 21, 22, 23, 24, 25, 26, 27, 28, 29, 30, 31, 32, 33, 34, 35, 36, 37, 38, 39, 40, 41, 42, 43, 44, 45, 46, 47, 48, 49, 50, 51, 52, 53, 54, 55, 56, 57, 58, 59, 60, 61, 62, 63, 64, 65, 66, 67, 68, 69, 70, 71, 72, 73, 74, 75, 76, 77, 78, 79, 80, 81, 82, 83, 84, 85, 86, 87, 88, 104, 105, 106, 107, 108, 109, 110, 111, 112, 113, 114, 115, 116, 117, 118, 119, 120, 121, 122, 123, 124, 125, 126, 127, 128, 129, 130, 131, 132, 133, 134, 135, 136, 137, 138, 139, 140, 141] (by decide +kernel) (by decide +kernel)
set_option maxRecDepth 20000 in
theorem gX8_chop_X2_record : GoodIn wsX8_chop (wsV RX8 44 RX2 yX2_record wsX2_record) := goodIn_app (goodIn_of _ (by decide +kernel)) ggX8_chop_X2_record
set_option maxRecDepth 20000 in
theorem ggX8_chop_X0_loadAt : GoodIn wsX8_chop wsX0_loadAt := goodIn_r _ [92, 24, 25, 107, 108, 109, 110, 111] (by decide +kernel) (by decide +kernel)
set_option maxRecDepth 20000 in
theorem gX8_chop_X0_loadAt : GoodIn wsX8_chop (wsV RX8 56 RX0 yX0_loadAt wsX0_loadAt) := goodIn_app (goodIn_of _ (by decide +kernel)) ggX8_chop_X0_loadAt
set_option maxRecDepth 20000 in
theorem ggX8_chop_X5_turnChopper : GoodIn wsX8_chop wsX5_turnChopper := goodIn_r _ [96, 40, 41, 112, 113, 114, 115, 116, 117, 118, 119, 120, 121, 122, 123, 124] (by decide +kernel) (by decide +kernel)
set_option maxRecDepth 20000 in
theorem gX8_chop_X5_turnChopper : GoodIn wsX8_chop (wsV RX8 80 RX5 yX5_turnChopper wsX5_turnChopper) := goodIn_app (goodIn_of _ (by decide +kernel)) ggX8_chop_X5_turnChopper
set_option maxRecDepth 20000 in
theorem ggX8_chop_X8_bit : GoodIn wsX8_chop wsX8_bit := goodIn_r _ [99] (by decide +kernel) (by decide +kernel)
set_option maxRecDepth 20000 in
theorem gX8_chop_X8_bit : GoodIn wsX8_chop (va_wsS RX8 84 yX8_bit wsX8_bit) := goodIn_app (goodIn_of _ (by decide +kernel)) ggX8_chop_X8_bit
theorem dX8_chop_0 : decode cX8_chop 0 = .ok (.iload_n 1, 1) := by decide +kernel
theorem dX8_chop_1 : decode cX8_chop 1 = .ok (.invokestatic 52, 3) := by decide +kernel
theorem dX8_chop_4 : decode cX8_chop 4 = .ok (.ifCond .eq 12, 3) := by decide +kernel
theorem dX8_chop_7 : decode cX8_chop 7 = .ok (.iload_n 2, 1) := by decide +kernel
theorem dX8_chop_8 : decode cX8_chop 8 = .ok (.iconst 0, 1) := by decide +kernel
theorem dX8_chop_9 : decode cX8_chop 9 = .ok (.iconst 1, 1) := by decide +kernel
theorem dX8_chop_10 : decode cX8_chop 10 = .ok (.invokestatic 66, 3) := by decide +kernel
theorem dX8_chop_13 : decode cX8_chop 13 = .ok (.ifCond .ne 6, 3) := by decide +kernel
theorem dX8_chop_16 : decode cX8_chop 16 = .ok (.ldc 43, 2) := by decide +kernel
theorem dX8_chop_18 : decode cX8_chop 18 = .ok (.ireturn, 1) := by decide +kernel
theorem dX8_chop_19 : decode cX8_chop 19 = .ok (.aload_n 0, 1) := by decide +kernel
theorem dX8_chop_20 : decode cX8_chop 20 = .ok (.getfield 22, 3) := by decide +kernel
theorem dX8_chop_23 : decode cX8_chop 23 = .ok (.aload_n 0, 1) := by decide +kernel
theorem dX8_chop_24 : decode cX8_chop 24 = .ok (.getfield 10, 3) := by decide +kernel
theorem dX8_chop_27 : decode cX8_chop 27 = .ok (.invokevirtual 44, 3) := by decide +kernel
theorem dX8_chop_30 : decode cX8_chop 30 = .ok (.aload_n 0, 1) := by decide +kernel
theorem dX8_chop_31 : decode cX8_chop 31 = .ok (.getfield 10, 3) := by decide +kernel
theorem dX8_chop_34 : decode cX8_chop 34 = .ok (.iload_n 1, 1) := by decide +kernel
theorem dX8_chop_35 : decode cX8_chop 35 = .ok (.invokevirtual 56, 3) := by decide +kernel
theorem dX8_chop_38 : decode cX8_chop 38 = .ok (.iload_n 2, 1) := by decide +kernel
theorem dX8_chop_39 : decode cX8_chop 39 = .ok (.iconst 1, 1) := by decide +kernel
theorem dX8_chop_40 : decode cX8_chop 40 = .ok (.if_icmp .ne 7, 3) := by decide +kernel
theorem dX8_chop_43 : decode cX8_chop 43 = .ok (.iconst 1, 1) := by decide +kernel
theorem dX8_chop_44 : decode cX8_chop 44 = .ok (.goto 4, 3) := by decide +kernel
theorem dX8_chop_47 : decode cX8_chop 47 = .ok (.iconst 0, 1) := by decide +kernel
theorem dX8_chop_48 : decode cX8_chop 48 = .ok (.invokevirtual 80, 3) := by decide +kernel
theorem dX8_chop_51 : decode cX8_chop 51 = .ok (.invokestatic 84, 3) := by decide +kernel
theorem dX8_chop_54 : decode cX8_chop 54 = .ok (.ireturn, 1) := by decide +kernel
set_option maxRecDepth 20000 in
theorem ggX8_go_X8_isWithin : GoodIn wsX8_go wsX8_isWithin := goodIn_r _ [9] (by decide +kernel) (by decide +kernel)
set_option maxRecDepth 20000 in
theorem gX8_go_X8_isWithin : GoodIn wsX8_go (va_wsS RX8 66 yX8_isWithin wsX8_isWithin) := goodIn_app (goodIn_of _ (by decide +kernel)) ggX8_go_X8_isWithin
set_option maxRecDepth 20000 in
theorem ggX8_go_X2_record : GoodIn wsX8_go wsX2_record := goodIn_r _ [14, 15, 16, 17, 18, 19, 20, 21, 22, 23, 24, 25, 26, 27, 28, 29, 30, 31, 32, 33, 34, 35, 36, 37, 38, 39, 40, 41, 42, 43, 44, 45, 46, 47, 48, 49, 50, 51, 52, 53, 54, 55, 56, 57, 58, 59, 60, 61, 62, 63, 64, 65, 66, 67, 68, 69, 70, 71, 72, 73, 74, 75, 76, 77, 78, 79, 80, 81, 82, 83, 84, 85, 86, 87, 208, 209, 210, 203, 204, 205, 206, 207, 211, 212, 213, 214, 215, 216, 217, 218, 219, 220, 221, 222, 223, 224, 225, 226, 227, 228, 229, 230, 231, 232, 233, 234, 235, 236, 237, 238, 239, 240] (by decide +kernel) (by decide +kernel)
set_option maxRecDepth 20000 in
theorem gX8_go_X2_record : GoodIn wsX8_go (wsV RX8 44 RX2 yX2_record wsX2_record) := goodIn_app (goodIn_of _ (by decide +kernel)) ggX8_go_X2_record
set_option maxRecDepth 20000 in
theorem ggX8_go_X0_pass : GoodIn wsX8_go wsX0_pass := goodIn_r _ [91, 23, 27, 25, 24, 26, 92, 93, 94, 31, 95, 40, 44, 41, 96, 97, 98, 99, 33, 34, 42, 43, 100, 101, 102, 61, 103, 63, 104, 105, 106, 107, 108, 109, 110, 111, 36, 112, 113, 114, 115, 116, 117, 118, 49, 119, 52, 54, 120, 121, 122, 123, 55, 56, 53, 124, 125, 126, 127, 57, 128, 129, 130, 131, 132, 133, 134, 135, 35, 37, 136, 137, 138, 139, 140, 141, 142, 143, 144, 45, 145, 146, 147, 148, 149, 150, 151, 152, 153, 154, 155, 156, 157, 158, 38, 159, 160, 161, 162, 163, 164, 165, 166, 167, 168, 169, 170, 39, 171, 172, 173, 174, 175, 176, 177, 178, 179, 180, 181, 71, 182, 73, 183, 8, 184, 6, 7, 9, 185, 186, 187, 188, 74, 75, 76, 189, 190, 191, 81, 192, 83, 85, 86, 87, 193, 194, 195, 196, 197, 198, 203, 204, 205, 206, 207, 211, 212, 213, 214, 215, 216, 217, 218, 219, 220, 221, 222, 223, 231, 232, 233, 234, 235, 236, 224, 225, 226, 227, 228, 229, 230, 237, 238, 239, 240] (by decide +kernel) (by decide +kernel)
set_option maxRecDepth 20000 in
theorem gX8_go_X0_pass : GoodIn wsX8_go (wsV RX8 93 RX0 yX0_pass wsX0_pass) := goodIn_app (goodIn_of _ (by decide +kernel)) ggX8_go_X0_pass
theorem dX8_go_0 : decode cX8_go 0 = .ok (.iload_n 1, 1) := by decide +kernel
theorem dX8_go_1 : decode cX8_go 1 = .ok (.iconst 1, 1) := by decide +kernel
theorem dX8_go_2 : decode cX8_go 2 = .ok (.sipush 1000, 3) := by decide +kernel
theorem dX8_go_5 : decode cX8_go 5 = .ok (.invokestatic 66, 3) := by decide +kernel
theorem dX8_go_8 : decode cX8_go 8 = .ok (.ifCond .ne 6, 3) := by decide +kernel
theorem dX8_go_11 : decode cX8_go 11 = .ok (.ldc 43, 2) := by decide +kernel
theorem dX8_go_13 : decode cX8_go 13 = .ok (.ireturn, 1) := by decide +kernel
theorem dX8_go_14 : decode cX8_go 14 = .ok (.iload_n 1, 1) := by decide +kernel
theorem dX8_go_15 : decode cX8_go 15 = .ok (.ldc 88, 2) := by decide +kernel
theorem dX8_go_17 : decode cX8_go 17 = .ok (.aload_n 0, 1) := by decide +kernel
theorem dX8_go_18 : decode cX8_go 18 = .ok (.getfield 10, 3) := by decide +kernel
theorem dX8_go_21 : decode cX8_go 21 = .ok (.getfield 89, 3) := by decide +kernel
theorem dX8_go_24 : decode cX8_go 24 = .ok (.isub, 1) := by decide +kernel
theorem dX8_go_25 : decode cX8_go 25 = .ok (.if_icmp .le 6, 3) := by decide +kernel
theorem dX8_go_28 : decode cX8_go 28 = .ok (.ldc 92, 2) := by decide +kernel
theorem dX8_go_30 : decode cX8_go 30 = .ok (.ireturn, 1) := by decide +kernel
theorem dX8_go_31 : decode cX8_go 31 = .ok (.aload_n 0, 1) := by decide +kernel
theorem dX8_go_32 : decode cX8_go 32 = .ok (.getfield 22, 3) := by decide +kernel
theorem dX8_go_35 : decode cX8_go 35 = .ok (.aload_n 0, 1) := by decide +kernel
theorem dX8_go_36 : decode cX8_go 36 = .ok (.getfield 10, 3) := by decide +kernel
theorem dX8_go_39 : decode cX8_go 39 = .ok (.invokevirtual 44, 3) := by decide +kernel
theorem dX8_go_42 : decode cX8_go 42 = .ok (.aload_n 0, 1) := by decide +kernel
theorem dX8_go_43 : decode cX8_go 43 = .ok (.getfield 10, 3) := by decide +kernel
theorem dX8_go_46 : decode cX8_go 46 = .ok (.iload_n 1, 1) := by decide +kernel
theorem dX8_go_47 : decode cX8_go 47 = .ok (.invokevirtual 93, 3) := by decide +kernel
theorem dX8_go_50 : decode cX8_go 50 = .ok (.ireturn, 1) := by decide +kernel
set_option maxRecDepth 20000 in
theorem ggX8_clear_X8_isLoad : GoodIn wsX8_clear wsX8_isLoad := goodIn_r _ [8, 9, 10, 7, 11] (by decide +kernel) (by decide +kernel)
set_option maxRecDepth 20000 in
theorem gX8_clear_X8_isLoad : GoodIn wsX8_clear (va_wsS RX8 52 yX8_isLoad wsX8_isLoad) := goodIn_app (goodIn_of _ (by decide +kernel)) ggX8_clear_X8_isLoad
set_option maxRecDepth 20000 in
theorem ggX8_clear_X8_isFault : GoodIn wsX8_clear wsX8_isFault := goodIn_r _ [14, 9, 10, 7, 11] (by decide +kernel) (by decide +kernel)
set_option maxRecDepth 20000 in
theorem gX8_clear_X8_isFault : GoodIn wsX8_clear (va_wsS RX8 97 yX8_isFault wsX8_isFault) := goodIn_app (goodIn_of _ (by decide +kernel)) ggX8_clear_X8_isFault
set_option maxRecDepth 20000 in
theorem ggX8_clear_X0_loadAt : GoodIn wsX8_clear wsX0_loadAt := goodIn_r _ [19, 20, 21, 142, 143, 144, 145, 146] (by decide +kernel) (by decide +kernel)
set_option maxRecDepth 20000 in
theorem gX8_clear_X0_loadAt : GoodIn wsX8_clear (wsV RX8 56 RX0 yX0_loadAt wsX0_loadAt) := goodIn_app (goodIn_of _ (by decide +kernel)) ggX8_clear_X0_loadAt
set_option maxRecDepth 20000 in
theorem ggX8_clear_X5_isClearable : GoodIn wsX8_clear wsX5_isClearable := goodIn_r _ [26, 27, 28, 29, 30, 31, 32, 33, 13, 7, 14, 9, 10, 11, 34, 35, 36, 37, 38, 39, 40, 41, 42, 43, 44, 45, 25, 46, 47, 48, 49, 50, 51, 52, 53, 54, 55, 56, 57, 58, 59, 60, 61, 62, 63, 64, 65, 66, 147, 148, 149, 150, 151, 152, 153, 154, 155, 156, 157, 158, 159, 160, 161, 162, 163, 164, 165] (by decide +kernel) (by decide +kernel)
set_option maxRecDepth 20000 in
theorem gX8_clear_X5_isClearable : GoodIn wsX8_clear (wsV RX8 100 RX5 yX5_isClearable wsX5_isClearable) := goodIn_app (goodIn_of _ (by decide +kernel)) ggX8_clear_X5_isClearable
set_option maxRecDepth 20000 in
theorem ggX8_clear_X2_record : GoodIn wsX8_clear wsX2_record := goodIn_r _ [71, 72, 73, 74, 75, 76, 77, 18, 78, 20, 21, 79, 80, 81, 82, 83, 84, 25, 85, 86, 87, 88, 27, 52, 47, 89, 90, 91, 92, 93, 94, 95, 96, 97, 98, 99, 100, 101, 102, 103, 104, 105, 106, 107, 108, 109, 110, 60, 111, 62, 112, 113, 114, 115, 116, 117, 118, 31, 119, 33, 38, 120, 121, 122, 123, 124, 125, 126, 127, 128, 129, 130, 131, 132, 166, 167, 168, 142, 143, 144, 145, 146, 147, 148, 149, 150, 151, 152, 153, 154, 155, 156, 157, 158, 159, 169, 170, 171, 172, 173, 174, 175, 164, 165, 160, 161, 162, 163, 176, 177, 178, 179] (by decide +kernel) (by decide +kernel)
set_option maxRecDepth 20000 in
theorem gX8_clear_X2_record : GoodIn wsX8_clear (wsV RX8 44 RX2 yX2_record wsX2_record) := goodIn_app (goodIn_of _ (by decide +kernel)) ggX8_clear_X2_record
set_option maxRecDepth 20000 in
theorem ggX8_clear_X3_release : GoodIn wsX8_clear wsX3_release := goodIn_r _ [136, 33, 121, 137, 29, 30, 31, 32, 13, 7, 14, 9, 10, 11, 160, 161, 162, 163] (by decide +kernel) (by decide +kernel)
set_option maxRecDepth 20000 in
theorem gX8_clear_X3_release : GoodIn wsX8_clear (wsV RX8 109 RX3 yX3_release wsX3_release) := goodIn_app (goodIn_of _ (by decide +kernel)) ggX8_clear_X3_release
theorem dX8_clear_0 : decode cX8_clear 0 = .ok (.iload_n 1, 1) := by decide +kernel
theorem dX8_clear_1 : decode cX8_clear 1 = .ok (.invokestatic 52, 3) := by decide +kernel
theorem dX8_clear_4 : decode cX8_clear 4 = .ok (.ifCond .eq 10, 3) := by decide +kernel
theorem dX8_clear_7 : decode cX8_clear 7 = .ok (.iload_n 2, 1) := by decide +kernel
theorem dX8_clear_8 : decode cX8_clear 8 = .ok (.invokestatic 97, 3) := by decide +kernel
theorem dX8_clear_11 : decode cX8_clear 11 = .ok (.ifCond .ne 6, 3) := by decide +kernel
theorem dX8_clear_14 : decode cX8_clear 14 = .ok (.ldc 43, 2) := by decide +kernel
theorem dX8_clear_16 : decode cX8_clear 16 = .ok (.ireturn, 1) := by decide +kernel
theorem dX8_clear_17 : decode cX8_clear 17 = .ok (.aload_n 0, 1) := by decide +kernel
theorem dX8_clear_18 : decode cX8_clear 18 = .ok (.getfield 10, 3) := by decide +kernel
theorem dX8_clear_21 : decode cX8_clear 21 = .ok (.iload_n 1, 1) := by decide +kernel
theorem dX8_clear_22 : decode cX8_clear 22 = .ok (.invokevirtual 56, 3) := by decide +kernel
theorem dX8_clear_25 : decode cX8_clear 25 = .ok (.astore_n 3, 1) := by decide +kernel
theorem dX8_clear_26 : decode cX8_clear 26 = .ok (.aload_n 3, 1) := by decide +kernel
theorem dX8_clear_27 : decode cX8_clear 27 = .ok (.iload_n 2, 1) := by decide +kernel
theorem dX8_clear_28 : decode cX8_clear 28 = .ok (.aload_n 0, 1) := by decide +kernel
theorem dX8_clear_29 : decode cX8_clear 29 = .ok (.getfield 10, 3) := by decide +kernel
theorem dX8_clear_32 : decode cX8_clear 32 = .ok (.getfield 33, 3) := by decide +kernel
theorem dX8_clear_35 : decode cX8_clear 35 = .ok (.invokevirtual 100, 3) := by decide +kernel
theorem dX8_clear_38 : decode cX8_clear 38 = .ok (.ifCond .ne 6, 3) := by decide +kernel
theorem dX8_clear_41 : decode cX8_clear 41 = .ok (.ldc 104, 2) := by decide +kernel
theorem dX8_clear_43 : decode cX8_clear 43 = .ok (.ireturn, 1) := by decide +kernel
theorem dX8_clear_44 : decode cX8_clear 44 = .ok (.aload_n 0, 1) := by decide +kernel
theorem dX8_clear_45 : decode cX8_clear 45 = .ok (.getfield 22, 3) := by decide +kernel
theorem dX8_clear_48 : decode cX8_clear 48 = .ok (.aload_n 0, 1) := by decide +kernel
theorem dX8_clear_49 : decode cX8_clear 49 = .ok (.getfield 10, 3) := by decide +kernel
theorem dX8_clear_52 : decode cX8_clear 52 = .ok (.invokevirtual 44, 3) := by decide +kernel
theorem dX8_clear_55 : decode cX8_clear 55 = .ok (.aload_n 3, 1) := by decide +kernel
theorem dX8_clear_56 : decode cX8_clear 56 = .ok (.getfield 105, 3) := by decide +kernel
theorem dX8_clear_59 : decode cX8_clear 59 = .ok (.iload_n 2, 1) := by decide +kernel
theorem dX8_clear_60 : decode cX8_clear 60 = .ok (.invokevirtual 109, 3) := by decide +kernel
theorem dX8_clear_63 : decode cX8_clear 63 = .ok (.aload_n 3, 1) := by decide +kernel
theorem dX8_clear_64 : decode cX8_clear 64 = .ok (.getfield 105, 3) := by decide +kernel
theorem dX8_clear_67 : decode cX8_clear 67 = .ok (.getfield 115, 3) := by decide +kernel
theorem dX8_clear_70 : decode cX8_clear 70 = .ok (.ireturn, 1) := by decide +kernel
set_option maxRecDepth 20000 in
theorem ggX8_undo_X2_restore : GoodIn wsX8_undo wsX2_restore := goodIn_r _ [8, 9, 10, 11, 12, 13, 14, 15, 16, 17, 18, 19, 20, 21, 22, 23, 24, 25, 26, 27, 28, 29, 30, 31, 32, 33, 34, 35, 36, 37, 38, 39, 40, 41, 42, 43, 44, 45, 46, 47, 48, 49, 50, 51, 52, 53, 54, 55, 56, 57, 58, 59, 60, 61, 62, 63, 64, 65, 66, 67, 68, 69, 70, 71, 72, 73, 74, 75, 76, 77, 78, 79, 80, 81, 86, 87, 88, 89, 90, 91, 92, 93, 94, 95, 96, 97, 98, 99, 100, 101, 102, 103, 104, 105, 106, 107, 108, 109, 110, 111, 112, 113, 114, 115, 116, 117, 118, 119, 120, 121, 122, 123] (by decide +kernel) (by decide +kernel)
set_option maxRecDepth 20000 in
theorem gX8_undo_X2_restore : GoodIn wsX8_undo (wsV RX8 121 RX2 yX2_restore wsX2_restore) := goodIn_app (goodIn_of _ (by decide +kernel)) ggX8_undo_X2_restore
theorem dX8_undo_0 : decode cX8_undo 0 = .ok (.aload_n 0, 1) := by decide +kernel
theorem dX8_undo_1 : decode cX8_undo 1 = .ok (.getfield 22, 3) := by decide +kernel
theorem dX8_undo_4 : decode cX8_undo 4 = .ok (.getfield 118, 3) := by decide +kernel
theorem dX8_undo_7 : decode cX8_undo 7 = .ok (.ifCond .ne 6, 3) := by decide +kernel
theorem dX8_undo_10 : decode cX8_undo 10 = .ok (.ldc 104, 2) := by decide +kernel
theorem dX8_undo_12 : decode cX8_undo 12 = .ok (.ireturn, 1) := by decide +kernel
theorem dX8_undo_13 : decode cX8_undo 13 = .ok (.aload_n 0, 1) := by decide +kernel
theorem dX8_undo_14 : decode cX8_undo 14 = .ok (.getfield 22, 3) := by decide +kernel
theorem dX8_undo_17 : decode cX8_undo 17 = .ok (.aload_n 0, 1) := by decide +kernel
theorem dX8_undo_18 : decode cX8_undo 18 = .ok (.getfield 10, 3) := by decide +kernel
theorem dX8_undo_21 : decode cX8_undo 21 = .ok (.invokevirtual 121, 3) := by decide +kernel
theorem dX8_undo_24 : decode cX8_undo 24 = .ok (.aload_n 0, 1) := by decide +kernel
theorem dX8_undo_25 : decode cX8_undo 25 = .ok (.getfield 22, 3) := by decide +kernel
theorem dX8_undo_28 : decode cX8_undo 28 = .ok (.getfield 118, 3) := by decide +kernel
theorem dX8_undo_31 : decode cX8_undo 31 = .ok (.ireturn, 1) := by decide +kernel
set_option maxRecDepth 20000 in
theorem ggX8_count_X8_isWithin : GoodIn wsX8_count wsX8_isWithin := goodIn_r _ [8] (by decide +kernel) (by decide +kernel)
set_option maxRecDepth 20000 in
theorem gX8_count_X8_isWithin : GoodIn wsX8_count (va_wsS RX8 66 yX8_isWithin wsX8_isWithin) := goodIn_app (goodIn_of _ (by decide +kernel)) ggX8_count_X8_isWithin
set_option maxRecDepth 20000 in
theorem ggX8_count_X1_value : GoodIn wsX8_count wsX1_value := goodIn_r _ [13, 14, 15, 16, 17, 12, 18, 67, 68] (by decide +kernel) (by decide +kernel)
set_option maxRecDepth 20000 in
theorem gX8_count_X1_value : GoodIn wsX8_count (wsV RX8 124 RX1 yX1_value wsX1_value) := goodIn_app (goodIn_of _ (by decide +kernel)) ggX8_count_X1_value
set_option maxRecDepth 20000 in
theorem ggX8_count_X0_slotsInScope : GoodIn wsX8_count wsX0_slotsInScope := goodIn_r _ [23, 24, 25, 26, 27, 28, 40, 41, 42, 43, 44] (by decide +kernel) (by decide +kernel)
set_option maxRecDepth 20000 in
theorem gX8_count_X0_slotsInScope : GoodIn wsX8_count (wsV RX8 134 RX0 yX0_slotsInScope wsX0_slotsInScope) := goodIn_app (goodIn_of _ (by decide +kernel)) ggX8_count_X0_slotsInScope
set_option maxRecDepth 20000 in
theorem ggX8_count_X5_switchings : GoodIn wsX8_count wsX5_switchings := goodIn_r _ [33, 34, 35, 45, 46, 47, 48, 49, 50, 51, 52, 53, 54, 55, 56, 57, 69, 70, 71, 72, 73, 74, 75] (by decide +kernel) (by decide +kernel)
set_option maxRecDepth 20000 in
theorem gX8_count_X5_switchings : GoodIn wsX8_count (wsV RX8 138 RX5 yX5_switchings wsX5_switchings) := goodIn_app (goodIn_of _ (by decide +kernel)) ggX8_count_X5_switchings
theorem dX8_count_0 : decode cX8_count 0 = .ok (.iload_n 1, 1) := by decide +kernel
theorem dX8_count_1 : decode cX8_count 1 = .ok (.bipush 10, 2) := by decide +kernel
theorem dX8_count_3 : decode cX8_count 3 = .ok (.bipush 15, 2) := by decide +kernel
theorem dX8_count_5 : decode cX8_count 5 = .ok (.invokestatic 66, 3) := by decide +kernel
theorem dX8_count_8 : decode cX8_count 8 = .ok (.ifCond .eq 19, 3) := by decide +kernel
theorem dX8_count_11 : decode cX8_count 11 = .ok (.aload_n 0, 1) := by decide +kernel
theorem dX8_count_12 : decode cX8_count 12 = .ok (.getfield 10, 3) := by decide +kernel
theorem dX8_count_15 : decode cX8_count 15 = .ok (.getfield 33, 3) := by decide +kernel
theorem dX8_count_18 : decode cX8_count 18 = .ok (.iload_n 1, 1) := by decide +kernel
theorem dX8_count_19 : decode cX8_count 19 = .ok (.bipush 10, 2) := by decide +kernel
theorem dX8_count_21 : decode cX8_count 21 = .ok (.isub, 1) := by decide +kernel
theorem dX8_count_22 : decode cX8_count 22 = .ok (.invokevirtual 124, 3) := by decide +kernel
theorem dX8_count_25 : decode cX8_count 25 = .ok (.i2l, 1) := by decide +kernel
theorem dX8_count_26 : decode cX8_count 26 = .ok (.lreturn, 1) := by decide +kernel
theorem dX8_count_27 : decode cX8_count 27 = .ok (.iload_n 1, 1) := by decide +kernel
theorem dX8_count_28 : decode cX8_count 28 = .ok (.tableswitch 233 0 20 #[100, 109, 138, 147, 170, 193, 202, 233, 233, 233, 233, 233, 233, 233, 233, 233, 233, 233, 233, 233, 211], 100) := by decide +kernel
theorem dX8_count_128 : decode cX8_count 128 = .ok (.aload_n 0, 1) := by decide +kernel
theorem dX8_count_129 : decode cX8_count 129 = .ok (.getfield 10, 3) := by decide +kernel
theorem dX8_count_132 : decode cX8_count 132 = .ok (.getfield 89, 3) := by decide +kernel
theorem dX8_count_135 : decode cX8_count 135 = .ok (.i2l, 1) := by decide +kernel
theorem dX8_count_136 : decode cX8_count 136 = .ok (.lreturn, 1) := by decide +kernel
theorem dX8_count_137 : decode cX8_count 137 = .ok (.aload_n 0, 1) := by decide +kernel
theorem dX8_count_138 : decode cX8_count 138 = .ok (.getfield 10, 3) := by decide +kernel
theorem dX8_count_141 : decode cX8_count 141 = .ok (.getfield 127, 3) := by decide +kernel
theorem dX8_count_144 : decode cX8_count 144 = .ok (.getfield 105, 3) := by decide +kernel
theorem dX8_count_147 : decode cX8_count 147 = .ok (.getfield 115, 3) := by decide +kernel
theorem dX8_count_150 : decode cX8_count 150 = .ok (.aload_n 0, 1) := by decide +kernel
theorem dX8_count_151 : decode cX8_count 151 = .ok (.getfield 10, 3) := by decide +kernel
theorem dX8_count_154 : decode cX8_count 154 = .ok (.getfield 131, 3) := by decide +kernel
theorem dX8_count_157 : decode cX8_count 157 = .ok (.getfield 105, 3) := by decide +kernel
theorem dX8_count_160 : decode cX8_count 160 = .ok (.getfield 115, 3) := by decide +kernel
theorem dX8_count_163 : decode cX8_count 163 = .ok (.iadd, 1) := by decide +kernel
theorem dX8_count_164 : decode cX8_count 164 = .ok (.i2l, 1) := by decide +kernel
theorem dX8_count_165 : decode cX8_count 165 = .ok (.lreturn, 1) := by decide +kernel
theorem dX8_count_166 : decode cX8_count 166 = .ok (.aload_n 0, 1) := by decide +kernel
theorem dX8_count_167 : decode cX8_count 167 = .ok (.getfield 10, 3) := by decide +kernel
theorem dX8_count_170 : decode cX8_count 170 = .ok (.invokevirtual 134, 3) := by decide +kernel
theorem dX8_count_173 : decode cX8_count 173 = .ok (.i2l, 1) := by decide +kernel
theorem dX8_count_174 : decode cX8_count 174 = .ok (.lreturn, 1) := by decide +kernel
theorem dX8_count_175 : decode cX8_count 175 = .ok (.aload_n 0, 1) := by decide +kernel
theorem dX8_count_176 : decode cX8_count 176 = .ok (.getfield 10, 3) := by decide +kernel
theorem dX8_count_179 : decode cX8_count 179 = .ok (.getfield 127, 3) := by decide +kernel
theorem dX8_count_182 : decode cX8_count 182 = .ok (.invokevirtual 138, 3) := by decide +kernel
theorem dX8_count_185 : decode cX8_count 185 = .ok (.aload_n 0, 1) := by decide +kernel
theorem dX8_count_186 : decode cX8_count 186 = .ok (.getfield 10, 3) := by decide +kernel
theorem dX8_count_189 : decode cX8_count 189 = .ok (.getfield 131, 3) := by decide +kernel
theorem dX8_count_192 : decode cX8_count 192 = .ok (.invokevirtual 138, 3) := by decide +kernel
theorem dX8_count_195 : decode cX8_count 195 = .ok (.iadd, 1) := by decide +kernel
theorem dX8_count_196 : decode cX8_count 196 = .ok (.i2l, 1) := by decide +kernel
theorem dX8_count_197 : decode cX8_count 197 = .ok (.lreturn, 1) := by decide +kernel
theorem dX8_count_198 : decode cX8_count 198 = .ok (.aload_n 0, 1) := by decide +kernel
theorem dX8_count_199 : decode cX8_count 199 = .ok (.getfield 10, 3) := by decide +kernel
theorem dX8_count_202 : decode cX8_count 202 = .ok (.getfield 127, 3) := by decide +kernel
theorem dX8_count_205 : decode cX8_count 205 = .ok (.getfield 141, 3) := by decide +kernel
theorem dX8_count_208 : decode cX8_count 208 = .ok (.aload_n 0, 1) := by decide +kernel
theorem dX8_count_209 : decode cX8_count 209 = .ok (.getfield 10, 3) := by decide +kernel
theorem dX8_count_212 : decode cX8_count 212 = .ok (.getfield 131, 3) := by decide +kernel
theorem dX8_count_215 : decode cX8_count 215 = .ok (.getfield 141, 3) := by decide +kernel
theorem dX8_count_218 : decode cX8_count 218 = .ok (.iadd, 1) := by decide +kernel
theorem dX8_count_219 : decode cX8_count 219 = .ok (.i2l, 1) := by decide +kernel
theorem dX8_count_220 : decode cX8_count 220 = .ok (.lreturn, 1) := by decide +kernel
theorem dX8_count_221 : decode cX8_count 221 = .ok (.aload_n 0, 1) := by decide +kernel
theorem dX8_count_222 : decode cX8_count 222 = .ok (.getfield 22, 3) := by decide +kernel
theorem dX8_count_225 : decode cX8_count 225 = .ok (.getfield 118, 3) := by decide +kernel
theorem dX8_count_228 : decode cX8_count 228 = .ok (.i2l, 1) := by decide +kernel
theorem dX8_count_229 : decode cX8_count 229 = .ok (.lreturn, 1) := by decide +kernel
theorem dX8_count_230 : decode cX8_count 230 = .ok (.aload_n 0, 1) := by decide +kernel
theorem dX8_count_231 : decode cX8_count 231 = .ok (.getfield 29, 3) := by decide +kernel
theorem dX8_count_234 : decode cX8_count 234 = .ok (.getfield 144, 3) := by decide +kernel
theorem dX8_count_237 : decode cX8_count 237 = .ok (.i2l, 1) := by decide +kernel
theorem dX8_count_238 : decode cX8_count 238 = .ok (.lreturn, 1) := by decide +kernel
theorem dX8_count_239 : decode cX8_count 239 = .ok (.aload_n 0, 1) := by decide +kernel
theorem dX8_count_240 : decode cX8_count 240 = .ok (.getfield 10, 3) := by decide +kernel
theorem dX8_count_243 : decode cX8_count 243 = .ok (.getfield 127, 3) := by decide +kernel
theorem dX8_count_246 : decode cX8_count 246 = .ok (.getfield 147, 3) := by decide +kernel
theorem dX8_count_249 : decode cX8_count 249 = .ok (.aload_n 0, 1) := by decide +kernel
theorem dX8_count_250 : decode cX8_count 250 = .ok (.getfield 10, 3) := by decide +kernel
theorem dX8_count_253 : decode cX8_count 253 = .ok (.getfield 131, 3) := by decide +kernel
theorem dX8_count_256 : decode cX8_count 256 = .ok (.getfield 147, 3) := by decide +kernel
theorem dX8_count_259 : decode cX8_count 259 = .ok (.ladd, 1) := by decide +kernel
theorem dX8_count_260 : decode cX8_count 260 = .ok (.lreturn, 1) := by decide +kernel
theorem dX8_count_261 : decode cX8_count 261 = .ok (.ldc2_w 151, 3) := by decide +kernel
theorem dX8_count_264 : decode cX8_count 264 = .ok (.lreturn, 1) := by decide +kernel
set_option maxRecDepth 20000 in
theorem ggX8_leg_X8_isLeg : GoodIn wsX8_leg wsX8_isLeg := goodIn_r _ [6, 7, 8, 5, 9] (by decide +kernel) (by decide +kernel)
set_option maxRecDepth 20000 in
theorem gX8_leg_X8_isLeg : GoodIn wsX8_leg (va_wsS RX8 63 yX8_isLeg wsX8_isLeg) := goodIn_app (goodIn_of _ (by decide +kernel)) ggX8_leg_X8_isLeg
set_option maxRecDepth 20000 in
theorem ggX8_leg_X0_legAt : GoodIn wsX8_leg wsX0_legAt := goodIn_r _ [14, 15, 16, 17, 13, 18, 19, 20, 49, 50, 51, 52, 53, 54, 55, 56, 57, 58, 59, 60, 61, 62, 63, 64, 65, 66] (by decide +kernel) (by decide +kernel)
set_option maxRecDepth 20000 in
theorem gX8_leg_X0_legAt : GoodIn wsX8_leg (wsV RX8 70 RX0 yX0_legAt wsX0_legAt) := goodIn_app (goodIn_of _ (by decide +kernel)) ggX8_leg_X0_legAt
set_option maxRecDepth 20000 in
theorem ggX8_leg_X0_wishOf : GoodIn wsX8_leg wsX0_wishOf := goodIn_r _ [24, 15, 16, 17, 13, 18, 19, 20, 25, 26, 27, 28, 29, 30, 31, 32, 33, 34, 35, 36, 37, 62, 63, 64, 65, 66, 49, 50, 51, 52, 53, 54, 55, 56, 57, 58, 59, 60, 61, 67, 68, 69, 70, 42, 43, 44, 45, 46, 47, 48] (by decide +kernel) (by decide +kernel)
set_option maxRecDepth 20000 in
theorem gX8_leg_X0_wishOf : GoodIn wsX8_leg (wsV RX8 156 RX0 yX0_wishOf wsX0_wishOf) := goodIn_app (goodIn_of _ (by decide +kernel)) ggX8_leg_X0_wishOf
theorem dX8_leg_0 : decode cX8_leg 0 = .ok (.iload_n 1, 1) := by decide +kernel
theorem dX8_leg_1 : decode cX8_leg 1 = .ok (.invokestatic 63, 3) := by decide +kernel
theorem dX8_leg_4 : decode cX8_leg 4 = .ok (.ifCond .ne 6, 3) := by decide +kernel
theorem dX8_leg_7 : decode cX8_leg 7 = .ok (.ldc 43, 2) := by decide +kernel
theorem dX8_leg_9 : decode cX8_leg 9 = .ok (.ireturn, 1) := by decide +kernel
theorem dX8_leg_10 : decode cX8_leg 10 = .ok (.aload_n 0, 1) := by decide +kernel
theorem dX8_leg_11 : decode cX8_leg 11 = .ok (.getfield 10, 3) := by decide +kernel
theorem dX8_leg_14 : decode cX8_leg 14 = .ok (.iload_n 1, 1) := by decide +kernel
theorem dX8_leg_15 : decode cX8_leg 15 = .ok (.invokevirtual 70, 3) := by decide +kernel
theorem dX8_leg_18 : decode cX8_leg 18 = .ok (.astore_n 3, 1) := by decide +kernel
theorem dX8_leg_19 : decode cX8_leg 19 = .ok (.iload_n 2, 1) := by decide +kernel
theorem dX8_leg_20 : decode cX8_leg 20 = .ok (.tableswitch 92 0 7 #[48, 53, 58, 67, 72, 77, 82, 87], 48) := by decide +kernel
theorem dX8_leg_68 : decode cX8_leg 68 = .ok (.aload_n 3, 1) := by decide +kernel
theorem dX8_leg_69 : decode cX8_leg 69 = .ok (.getfield 74, 3) := by decide +kernel
theorem dX8_leg_72 : decode cX8_leg 72 = .ok (.ireturn, 1) := by decide +kernel
theorem dX8_leg_73 : decode cX8_leg 73 = .ok (.aload_n 3, 1) := by decide +kernel
theorem dX8_leg_74 : decode cX8_leg 74 = .ok (.getfield 153, 3) := by decide +kernel
theorem dX8_leg_77 : decode cX8_leg 77 = .ok (.ireturn, 1) := by decide +kernel
theorem dX8_leg_78 : decode cX8_leg 78 = .ok (.aload_n 0, 1) := by decide +kernel
theorem dX8_leg_79 : decode cX8_leg 79 = .ok (.getfield 10, 3) := by decide +kernel
theorem dX8_leg_82 : decode cX8_leg 82 = .ok (.iload_n 1, 1) := by decide +kernel
theorem dX8_leg_83 : decode cX8_leg 83 = .ok (.invokevirtual 156, 3) := by decide +kernel
theorem dX8_leg_86 : decode cX8_leg 86 = .ok (.ireturn, 1) := by decide +kernel
theorem dX8_leg_87 : decode cX8_leg 87 = .ok (.aload_n 3, 1) := by decide +kernel
theorem dX8_leg_88 : decode cX8_leg 88 = .ok (.getfield 159, 3) := by decide +kernel
theorem dX8_leg_91 : decode cX8_leg 91 = .ok (.ireturn, 1) := by decide +kernel
theorem dX8_leg_92 : decode cX8_leg 92 = .ok (.aload_n 3, 1) := by decide +kernel
theorem dX8_leg_93 : decode cX8_leg 93 = .ok (.getfield 162, 3) := by decide +kernel
theorem dX8_leg_96 : decode cX8_leg 96 = .ok (.ireturn, 1) := by decide +kernel
theorem dX8_leg_97 : decode cX8_leg 97 = .ok (.aload_n 3, 1) := by decide +kernel
theorem dX8_leg_98 : decode cX8_leg 98 = .ok (.getfield 164, 3) := by decide +kernel
theorem dX8_leg_101 : decode cX8_leg 101 = .ok (.ireturn, 1) := by decide +kernel
theorem dX8_leg_102 : decode cX8_leg 102 = .ok (.aload_n 3, 1) := by decide +kernel
theorem dX8_leg_103 : decode cX8_leg 103 = .ok (.getfield 167, 3) := by decide +kernel
theorem dX8_leg_106 : decode cX8_leg 106 = .ok (.ireturn, 1) := by decide +kernel
theorem dX8_leg_107 : decode cX8_leg 107 = .ok (.aload_n 3, 1) := by decide +kernel
theorem dX8_leg_108 : decode cX8_leg 108 = .ok (.getfield 170, 3) := by decide +kernel
theorem dX8_leg_111 : decode cX8_leg 111 = .ok (.ireturn, 1) := by decide +kernel
theorem dX8_leg_112 : decode cX8_leg 112 = .ok (.ldc 43, 2) := by decide +kernel
theorem dX8_leg_114 : decode cX8_leg 114 = .ok (.ireturn, 1) := by decide +kernel
set_option maxRecDepth 20000 in
theorem ggX8_load_X8_isLoad : GoodIn wsX8_load wsX8_isLoad := goodIn_r _ [7, 8, 9, 6, 10] (by decide +kernel) (by decide +kernel)
set_option maxRecDepth 20000 in
theorem gX8_load_X8_isLoad : GoodIn wsX8_load (va_wsS RX8 52 yX8_isLoad wsX8_isLoad) := goodIn_app (goodIn_of _ (by decide +kernel)) ggX8_load_X8_isLoad
set_option maxRecDepth 20000 in
theorem ggX8_load_X0_loadAt : GoodIn wsX8_load wsX0_loadAt := goodIn_r _ [15, 16, 17, 52, 53, 54, 55, 56] (by decide +kernel) (by decide +kernel)
set_option maxRecDepth 20000 in
theorem gX8_load_X0_loadAt : GoodIn wsX8_load (wsV RX8 56 RX0 yX0_loadAt wsX0_loadAt) := goodIn_app (goodIn_of _ (by decide +kernel)) ggX8_load_X0_loadAt
set_option maxRecDepth 20000 in
theorem ggX8_load_X8_isWithin : GoodIn wsX8_load wsX8_isWithin := goodIn_r _ [10] (by decide +kernel) (by decide +kernel)
set_option maxRecDepth 20000 in
theorem gX8_load_X8_isWithin : GoodIn wsX8_load (va_wsS RX8 66 yX8_isWithin wsX8_isWithin) := goodIn_app (goodIn_of _ (by decide +kernel)) ggX8_load_X8_isWithin
set_option maxRecDepth 20000 in
theorem ggX8_load_X1_value : GoodIn wsX8_load wsX1_value := goodIn_r _ [22, 23, 24, 25, 26, 21, 27, 57, 58] (by decide +kernel) (by decide +kernel)
set_option maxRecDepth 20000 in
theorem gX8_load_X1_value : GoodIn wsX8_load (wsV RX8 124 RX1 yX1_value wsX1_value) := goodIn_app (goodIn_of _ (by decide +kernel)) ggX8_load_X1_value
set_option maxRecDepth 20000 in
theorem ggX8_load_X8_bit : GoodIn wsX8_load wsX8_bit := goodIn_r _ [30] (by decide +kernel) (by decide +kernel)
set_option maxRecDepth 20000 in
theorem gX8_load_X8_bit : GoodIn wsX8_load (va_wsS RX8 84 yX8_bit wsX8_bit) := goodIn_app (goodIn_of _ (by decide +kernel)) ggX8_load_X8_bit
theorem dX8_load_0 : decode cX8_load 0 = .ok (.iload_n 1, 1) := by decide +kernel
theorem dX8_load_1 : decode cX8_load 1 = .ok (.invokestatic 52, 3) := by decide +kernel
theorem dX8_load_4 : decode cX8_load 4 = .ok (.ifCond .ne 6, 3) := by decide +kernel
theorem dX8_load_7 : decode cX8_load 7 = .ok (.ldc 43, 2) := by decide +kernel
theorem dX8_load_9 : decode cX8_load 9 = .ok (.ireturn, 1) := by decide +kernel
theorem dX8_load_10 : decode cX8_load 10 = .ok (.aload_n 0, 1) := by decide +kernel
theorem dX8_load_11 : decode cX8_load 11 = .ok (.getfield 10, 3) := by decide +kernel
theorem dX8_load_14 : decode cX8_load 14 = .ok (.iload_n 1, 1) := by decide +kernel
theorem dX8_load_15 : decode cX8_load 15 = .ok (.invokevirtual 56, 3) := by decide +kernel
theorem dX8_load_18 : decode cX8_load 18 = .ok (.astore_n 3, 1) := by decide +kernel
theorem dX8_load_19 : decode cX8_load 19 = .ok (.iload_n 2, 1) := by decide +kernel
theorem dX8_load_20 : decode cX8_load 20 = .ok (.iconst 0, 1) := by decide +kernel
theorem dX8_load_21 : decode cX8_load 21 = .ok (.iconst 3, 1) := by decide +kernel
theorem dX8_load_22 : decode cX8_load 22 = .ok (.invokestatic 66, 3) := by decide +kernel
theorem dX8_load_25 : decode cX8_load 25 = .ok (.ifCond .eq 12, 3) := by decide +kernel
theorem dX8_load_28 : decode cX8_load 28 = .ok (.aload_n 3, 1) := by decide +kernel
theorem dX8_load_29 : decode cX8_load 29 = .ok (.getfield 60, 3) := by decide +kernel
theorem dX8_load_32 : decode cX8_load 32 = .ok (.iload_n 2, 1) := by decide +kernel
theorem dX8_load_33 : decode cX8_load 33 = .ok (.invokevirtual 124, 3) := by decide +kernel
theorem dX8_load_36 : decode cX8_load 36 = .ok (.ireturn, 1) := by decide +kernel
theorem dX8_load_37 : decode cX8_load 37 = .ok (.iload_n 2, 1) := by decide +kernel
theorem dX8_load_38 : decode cX8_load 38 = .ok (.tableswitch 108 4 11 #[46, 51, 56, 64, 72, 77, 95, 103], 46) := by decide +kernel
theorem dX8_load_84 : decode cX8_load 84 = .ok (.aload_n 3, 1) := by decide +kernel
theorem dX8_load_85 : decode cX8_load 85 = .ok (.getfield 173, 3) := by decide +kernel
theorem dX8_load_88 : decode cX8_load 88 = .ok (.ireturn, 1) := by decide +kernel
theorem dX8_load_89 : decode cX8_load 89 = .ok (.aload_n 3, 1) := by decide +kernel
theorem dX8_load_90 : decode cX8_load 90 = .ok (.getfield 176, 3) := by decide +kernel
theorem dX8_load_93 : decode cX8_load 93 = .ok (.ireturn, 1) := by decide +kernel
theorem dX8_load_94 : decode cX8_load 94 = .ok (.aload_n 3, 1) := by decide +kernel
theorem dX8_load_95 : decode cX8_load 95 = .ok (.getfield 179, 3) := by decide +kernel
theorem dX8_load_98 : decode cX8_load 98 = .ok (.invokestatic 84, 3) := by decide +kernel
theorem dX8_load_101 : decode cX8_load 101 = .ok (.ireturn, 1) := by decide +kernel
theorem dX8_load_102 : decode cX8_load 102 = .ok (.aload_n 3, 1) := by decide +kernel
theorem dX8_load_103 : decode cX8_load 103 = .ok (.getfield 183, 3) := by decide +kernel
theorem dX8_load_106 : decode cX8_load 106 = .ok (.invokestatic 84, 3) := by decide +kernel
theorem dX8_load_109 : decode cX8_load 109 = .ok (.ireturn, 1) := by decide +kernel
theorem dX8_load_110 : decode cX8_load 110 = .ok (.aload_n 3, 1) := by decide +kernel
theorem dX8_load_111 : decode cX8_load 111 = .ok (.getfield 186, 3) := by decide +kernel
theorem dX8_load_114 : decode cX8_load 114 = .ok (.ireturn, 1) := by decide +kernel
theorem dX8_load_115 : decode cX8_load 115 = .ok (.aload_n 3, 1) := by decide +kernel
theorem dX8_load_116 : decode cX8_load 116 = .ok (.getfield 189, 3) := by decide +kernel
theorem dX8_load_119 : decode cX8_load 119 = .ok (.iconst 2, 1) := by decide +kernel
theorem dX8_load_120 : decode cX8_load 120 = .ok (.if_icmp .ne 8, 3) := by decide +kernel
theorem dX8_load_123 : decode cX8_load 123 = .ok (.ldc 192, 2) := by decide +kernel
theorem dX8_load_125 : decode cX8_load 125 = .ok (.goto 7, 3) := by decide +kernel
theorem dX8_load_128 : decode cX8_load 128 = .ok (.aload_n 3, 1) := by decide +kernel
theorem dX8_load_129 : decode cX8_load 129 = .ok (.getfield 189, 3) := by decide +kernel
theorem dX8_load_132 : decode cX8_load 132 = .ok (.ireturn, 1) := by decide +kernel
theorem dX8_load_133 : decode cX8_load 133 = .ok (.aload_n 3, 1) := by decide +kernel
theorem dX8_load_134 : decode cX8_load 134 = .ok (.getfield 105, 3) := by decide +kernel
theorem dX8_load_137 : decode cX8_load 137 = .ok (.getfield 115, 3) := by decide +kernel
theorem dX8_load_140 : decode cX8_load 140 = .ok (.ireturn, 1) := by decide +kernel
theorem dX8_load_141 : decode cX8_load 141 = .ok (.aload_n 3, 1) := by decide +kernel
theorem dX8_load_142 : decode cX8_load 142 = .ok (.getfield 193, 3) := by decide +kernel
theorem dX8_load_145 : decode cX8_load 145 = .ok (.ireturn, 1) := by decide +kernel
theorem dX8_load_146 : decode cX8_load 146 = .ok (.ldc 43, 2) := by decide +kernel
theorem dX8_load_148 : decode cX8_load 148 = .ok (.ireturn, 1) := by decide +kernel
set_option maxRecDepth 20000 in
theorem ggX8_fault_X8_isLoad : GoodIn wsX8_fault wsX8_isLoad := goodIn_r _ [7, 8, 9, 6, 10] (by decide +kernel) (by decide +kernel)
set_option maxRecDepth 20000 in
theorem gX8_fault_X8_isLoad : GoodIn wsX8_fault (va_wsS RX8 52 yX8_isLoad wsX8_isLoad) := goodIn_app (goodIn_of _ (by decide +kernel)) ggX8_fault_X8_isLoad
set_option maxRecDepth 20000 in
theorem ggX8_fault_X8_isFault : GoodIn wsX8_fault wsX8_isFault := goodIn_r _ [13, 8, 9, 6, 10] (by decide +kernel) (by decide +kernel)
set_option maxRecDepth 20000 in
theorem gX8_fault_X8_isFault : GoodIn wsX8_fault (va_wsS RX8 97 yX8_isFault wsX8_isFault) := goodIn_app (goodIn_of _ (by decide +kernel)) ggX8_fault_X8_isFault
set_option maxRecDepth 20000 in
theorem ggX8_fault_X8_isWithin : GoodIn wsX8_fault wsX8_isWithin := goodIn_r _ [10] (by decide +kernel) (by decide +kernel)
set_option maxRecDepth 20000 in
theorem gX8_fault_X8_isWithin : GoodIn wsX8_fault (va_wsS RX8 66 yX8_isWithin wsX8_isWithin) := goodIn_app (goodIn_of _ (by decide +kernel)) ggX8_fault_X8_isWithin
set_option maxRecDepth 20000 in
theorem ggX8_fault_X0_loadAt : GoodIn wsX8_fault wsX0_loadAt := goodIn_r _ [18, 19, 20, 94, 95, 96, 97, 98] (by decide +kernel) (by decide +kernel)
set_option maxRecDepth 20000 in
theorem gX8_fault_X0_loadAt : GoodIn wsX8_fault (wsV RX8 56 RX0 yX0_loadAt wsX0_loadAt) := goodIn_app (goodIn_of _ (by decide +kernel)) ggX8_fault_X0_loadAt
set_option maxRecDepth 20000 in
theorem ggX8_fault_X3_isLatched : GoodIn wsX8_fault wsX3_isLatched := goodIn_r _ [25, 26, 12, 6, 13, 8, 9, 10, 99, 100, 101, 102] (by decide +kernel) (by decide +kernel)
set_option maxRecDepth 20000 in
theorem gX8_fault_X3_isLatched : GoodIn wsX8_fault (wsV RX8 196 RX3 yX3_isLatched wsX3_isLatched) := goodIn_app (goodIn_of _ (by decide +kernel)) ggX8_fault_X3_isLatched
set_option maxRecDepth 20000 in
theorem ggX8_fault_X8_bit : GoodIn wsX8_fault wsX8_bit := goodIn_r _ [29] (by decide +kernel) (by decide +kernel)
set_option maxRecDepth 20000 in
theorem gX8_fault_X8_bit : GoodIn wsX8_fault (va_wsS RX8 84 yX8_bit wsX8_bit) := goodIn_app (goodIn_of _ (by decide +kernel)) ggX8_fault_X8_bit
set_option maxRecDepth 20000 in
theorem ggX8_fault_X5_isClearable : GoodIn wsX8_fault wsX5_isClearable := goodIn_r _ [34, 35, 36, 22, 23, 24, 25, 26, 12, 6, 13, 8, 9, 10, 37, 38, 39, 40, 41, 42, 43, 44, 45, 46, 47, 48, 33, 49, 50, 51, 52, 53, 54, 55, 56, 57, 58, 59, 60, 61, 62, 63, 64, 65, 66, 67, 68, 69, 81, 82, 83, 84, 85, 86, 87, 88, 89, 90, 91, 92, 93, 99, 100, 101, 102, 103, 104] (by decide +kernel) (by decide +kernel)
set_option maxRecDepth 20000 in
theorem gX8_fault_X5_isClearable : GoodIn wsX8_fault (wsV RX8 100 RX5 yX5_isClearable wsX5_isClearable) := goodIn_app (goodIn_of _ (by decide +kernel)) ggX8_fault_X5_isClearable
set_option maxRecDepth 20000 in
theorem ggX8_fault_X3_slotOf : GoodIn wsX8_fault wsX3_slotOf := goodIn_r _ [45, 41, 12, 6, 13, 8, 9, 10, 99, 100, 101, 102] (by decide +kernel) (by decide +kernel)
set_option maxRecDepth 20000 in
theorem gX8_fault_X3_slotOf : GoodIn wsX8_fault (wsV RX8 199 RX3 yX3_slotOf wsX3_slotOf) := goodIn_app (goodIn_of _ (by decide +kernel)) ggX8_fault_X3_slotOf
set_option maxRecDepth 20000 in
theorem ggX8_fault_X3_currentOf : GoodIn wsX8_fault wsX3_currentOf := goodIn_r _ [74, 75, 12, 6, 13, 8, 9, 10, 99, 100, 101, 102] (by decide +kernel) (by decide +kernel)
set_option maxRecDepth 20000 in
theorem gX8_fault_X3_currentOf : GoodIn wsX8_fault (wsV RX8 202 RX3 yX3_currentOf wsX3_currentOf) := goodIn_app (goodIn_of _ (by decide +kernel)) ggX8_fault_X3_currentOf
set_option maxRecDepth 20000 in
theorem ggX8_fault_X3_placeOf : GoodIn wsX8_fault wsX3_placeOf := goodIn_r _ [40, 41, 26, 42, 43, 44, 24, 45, 12, 6, 13, 8, 9, 10, 99, 100, 101, 102] (by decide +kernel) (by decide +kernel)
set_option maxRecDepth 20000 in
theorem gX8_fault_X3_placeOf : GoodIn wsX8_fault (wsV RX8 205 RX3 yX3_placeOf wsX3_placeOf) := goodIn_app (goodIn_of _ (by decide +kernel)) ggX8_fault_X3_placeOf
theorem dX8_fault_0 : decode cX8_fault 0 = .ok (.iload_n 1, 1) := by decide +kernel
theorem dX8_fault_1 : decode cX8_fault 1 = .ok (.invokestatic 52, 3) := by decide +kernel
theorem dX8_fault_4 : decode cX8_fault 4 = .ok (.ifCond .eq 19, 3) := by decide +kernel
theorem dX8_fault_7 : decode cX8_fault 7 = .ok (.iload_n 2, 1) := by decide +kernel
theorem dX8_fault_8 : decode cX8_fault 8 = .ok (.invokestatic 97, 3) := by decide +kernel
theorem dX8_fault_11 : decode cX8_fault 11 = .ok (.ifCond .eq 12, 3) := by decide +kernel
theorem dX8_fault_14 : decode cX8_fault 14 = .ok (.iload_n 3, 1) := by decide +kernel
theorem dX8_fault_15 : decode cX8_fault 15 = .ok (.iconst 0, 1) := by decide +kernel
theorem dX8_fault_16 : decode cX8_fault 16 = .ok (.iconst 4, 1) := by decide +kernel
theorem dX8_fault_17 : decode cX8_fault 17 = .ok (.invokestatic 66, 3) := by decide +kernel
theorem dX8_fault_20 : decode cX8_fault 20 = .ok (.ifCond .ne 6, 3) := by decide +kernel
theorem dX8_fault_23 : decode cX8_fault 23 = .ok (.ldc 43, 2) := by decide +kernel
theorem dX8_fault_25 : decode cX8_fault 25 = .ok (.ireturn, 1) := by decide +kernel
theorem dX8_fault_26 : decode cX8_fault 26 = .ok (.aload_n 0, 1) := by decide +kernel
theorem dX8_fault_27 : decode cX8_fault 27 = .ok (.getfield 10, 3) := by decide +kernel
theorem dX8_fault_30 : decode cX8_fault 30 = .ok (.iload_n 1, 1) := by decide +kernel
theorem dX8_fault_31 : decode cX8_fault 31 = .ok (.invokevirtual 56, 3) := by decide +kernel
theorem dX8_fault_34 : decode cX8_fault 34 = .ok (.astore 4, 2) := by decide +kernel
theorem dX8_fault_36 : decode cX8_fault 36 = .ok (.aload 4, 2) := by decide +kernel
theorem dX8_fault_38 : decode cX8_fault 38 = .ok (.getfield 105, 3) := by decide +kernel
theorem dX8_fault_41 : decode cX8_fault 41 = .ok (.iload_n 2, 1) := by decide +kernel
theorem dX8_fault_42 : decode cX8_fault 42 = .ok (.invokevirtual 196, 3) := by decide +kernel
theorem dX8_fault_45 : decode cX8_fault 45 = .ok (.istore 5, 2) := by decide +kernel
theorem dX8_fault_47 : decode cX8_fault 47 = .ok (.iload_n 3, 1) := by decide +kernel
theorem dX8_fault_48 : decode cX8_fault 48 = .ok (.ifCond .ne 9, 3) := by decide +kernel
theorem dX8_fault_51 : decode cX8_fault 51 = .ok (.iload 5, 2) := by decide +kernel
theorem dX8_fault_53 : decode cX8_fault 53 = .ok (.invokestatic 84, 3) := by decide +kernel
theorem dX8_fault_56 : decode cX8_fault 56 = .ok (.ireturn, 1) := by decide +kernel
theorem dX8_fault_57 : decode cX8_fault 57 = .ok (.iload_n 3, 1) := by decide +kernel
theorem dX8_fault_58 : decode cX8_fault 58 = .ok (.iconst 4, 1) := by decide +kernel
theorem dX8_fault_59 : decode cX8_fault 59 = .ok (.if_icmp .ne 20, 3) := by decide +kernel
theorem dX8_fault_62 : decode cX8_fault 62 = .ok (.aload 4, 2) := by decide +kernel
theorem dX8_fault_64 : decode cX8_fault 64 = .ok (.iload_n 2, 1) := by decide +kernel
theorem dX8_fault_65 : decode cX8_fault 65 = .ok (.aload_n 0, 1) := by decide +kernel
theorem dX8_fault_66 : decode cX8_fault 66 = .ok (.getfield 10, 3) := by decide +kernel
theorem dX8_fault_69 : decode cX8_fault 69 = .ok (.getfield 33, 3) := by decide +kernel
theorem dX8_fault_72 : decode cX8_fault 72 = .ok (.invokevirtual 100, 3) := by decide +kernel
theorem dX8_fault_75 : decode cX8_fault 75 = .ok (.invokestatic 84, 3) := by decide +kernel
theorem dX8_fault_78 : decode cX8_fault 78 = .ok (.ireturn, 1) := by decide +kernel
theorem dX8_fault_79 : decode cX8_fault 79 = .ok (.iload 5, 2) := by decide +kernel
theorem dX8_fault_81 : decode cX8_fault 81 = .ok (.ifCond .ne 6, 3) := by decide +kernel
theorem dX8_fault_84 : decode cX8_fault 84 = .ok (.ldc 192, 2) := by decide +kernel
theorem dX8_fault_86 : decode cX8_fault 86 = .ok (.ireturn, 1) := by decide +kernel
theorem dX8_fault_87 : decode cX8_fault 87 = .ok (.iload_n 3, 1) := by decide +kernel
theorem dX8_fault_88 : decode cX8_fault 88 = .ok (.lookupswitch 48 #[(1, 28), (2, 38)], 28) := by decide +kernel
theorem dX8_fault_116 : decode cX8_fault 116 = .ok (.aload 4, 2) := by decide +kernel
theorem dX8_fault_118 : decode cX8_fault 118 = .ok (.getfield 105, 3) := by decide +kernel
theorem dX8_fault_121 : decode cX8_fault 121 = .ok (.iload_n 2, 1) := by decide +kernel
theorem dX8_fault_122 : decode cX8_fault 122 = .ok (.invokevirtual 199, 3) := by decide +kernel
theorem dX8_fault_125 : decode cX8_fault 125 = .ok (.ireturn, 1) := by decide +kernel
theorem dX8_fault_126 : decode cX8_fault 126 = .ok (.aload 4, 2) := by decide +kernel
theorem dX8_fault_128 : decode cX8_fault 128 = .ok (.getfield 105, 3) := by decide +kernel
theorem dX8_fault_131 : decode cX8_fault 131 = .ok (.iload_n 2, 1) := by decide +kernel
theorem dX8_fault_132 : decode cX8_fault 132 = .ok (.invokevirtual 202, 3) := by decide +kernel
theorem dX8_fault_135 : decode cX8_fault 135 = .ok (.ireturn, 1) := by decide +kernel
theorem dX8_fault_136 : decode cX8_fault 136 = .ok (.aload 4, 2) := by decide +kernel
theorem dX8_fault_138 : decode cX8_fault 138 = .ok (.getfield 105, 3) := by decide +kernel
theorem dX8_fault_141 : decode cX8_fault 141 = .ok (.iload_n 2, 1) := by decide +kernel
theorem dX8_fault_142 : decode cX8_fault 142 = .ok (.invokevirtual 205, 3) := by decide +kernel
theorem dX8_fault_145 : decode cX8_fault 145 = .ok (.ireturn, 1) := by decide +kernel
set_option maxRecDepth 20000 in
theorem ggX8_scope_X8_isWithin : GoodIn wsX8_scope wsX8_isWithin := goodIn_r _ [7] (by decide +kernel) (by decide +kernel)
set_option maxRecDepth 20000 in
theorem gX8_scope_X8_isWithin : GoodIn wsX8_scope (va_wsS RX8 66 yX8_isWithin wsX8_isWithin) := goodIn_app (goodIn_of _ (by decide +kernel)) ggX8_scope_X8_isWithin
set_option maxRecDepth 20000 in
theorem ggX8_scope_X0_slotsInScope : GoodIn wsX8_scope wsX0_slotsInScope := goodIn_r _ [12, 13, 14, 15, 16, 17, 35, 36, 37, 38, 39] (by decide +kernel) (by decide +kernel)
set_option maxRecDepth 20000 in
theorem gX8_scope_X0_slotsInScope : GoodIn wsX8_scope (wsV RX8 134 RX0 yX0_slotsInScope wsX0_slotsInScope) := goodIn_app (goodIn_of _ (by decide +kernel)) ggX8_scope_X0_slotsInScope
set_option maxRecDepth 20000 in
theorem ggX8_scope_X6_value : GoodIn wsX8_scope wsX6_value := goodIn_r _ [22, 23, 24, 25, 26, 27, 28, 29, 30, 40, 41, 42, 43] (by decide +kernel) (by decide +kernel)
set_option maxRecDepth 20000 in
theorem gX8_scope_X6_value : GoodIn wsX8_scope (wsV RX8 212 RX6 yX6_value wsX6_value) := goodIn_app (goodIn_of _ (by decide +kernel)) ggX8_scope_X6_value
theorem dX8_scope_0 : decode cX8_scope 0 = .ok (.iload_n 1, 1) := by decide +kernel
theorem dX8_scope_1 : decode cX8_scope 1 = .ok (.ifCond .lt 12, 3) := by decide +kernel
theorem dX8_scope_4 : decode cX8_scope 4 = .ok (.iload_n 2, 1) := by decide +kernel
theorem dX8_scope_5 : decode cX8_scope 5 = .ok (.iconst 0, 1) := by decide +kernel
theorem dX8_scope_6 : decode cX8_scope 6 = .ok (.iconst 4, 1) := by decide +kernel
theorem dX8_scope_7 : decode cX8_scope 7 = .ok (.invokestatic 66, 3) := by decide +kernel
theorem dX8_scope_10 : decode cX8_scope 10 = .ok (.ifCond .ne 6, 3) := by decide +kernel
theorem dX8_scope_13 : decode cX8_scope 13 = .ok (.ldc 43, 2) := by decide +kernel
theorem dX8_scope_15 : decode cX8_scope 15 = .ok (.ireturn, 1) := by decide +kernel
theorem dX8_scope_16 : decode cX8_scope 16 = .ok (.iload_n 1, 1) := by decide +kernel
theorem dX8_scope_17 : decode cX8_scope 17 = .ok (.aload_n 0, 1) := by decide +kernel
theorem dX8_scope_18 : decode cX8_scope 18 = .ok (.getfield 10, 3) := by decide +kernel
theorem dX8_scope_21 : decode cX8_scope 21 = .ok (.invokevirtual 134, 3) := by decide +kernel
theorem dX8_scope_24 : decode cX8_scope 24 = .ok (.if_icmp .lt 6, 3) := by decide +kernel
theorem dX8_scope_27 : decode cX8_scope 27 = .ok (.ldc 192, 2) := by decide +kernel
theorem dX8_scope_29 : decode cX8_scope 29 = .ok (.ireturn, 1) := by decide +kernel
theorem dX8_scope_30 : decode cX8_scope 30 = .ok (.aload_n 0, 1) := by decide +kernel
theorem dX8_scope_31 : decode cX8_scope 31 = .ok (.getfield 10, 3) := by decide +kernel
theorem dX8_scope_34 : decode cX8_scope 34 = .ok (.getfield 89, 3) := by decide +kernel
theorem dX8_scope_37 : decode cX8_scope 37 = .ok (.iconst 1, 1) := by decide +kernel
theorem dX8_scope_38 : decode cX8_scope 38 = .ok (.isub, 1) := by decide +kernel
theorem dX8_scope_39 : decode cX8_scope 39 = .ok (.iload_n 1, 1) := by decide +kernel
theorem dX8_scope_40 : decode cX8_scope 40 = .ok (.isub, 1) := by decide +kernel
theorem dX8_scope_41 : decode cX8_scope 41 = .ok (.istore_n 3, 1) := by decide +kernel
theorem dX8_scope_42 : decode cX8_scope 42 = .ok (.iload_n 2, 1) := by decide +kernel
theorem dX8_scope_43 : decode cX8_scope 43 = .ok (.ifCond .ne 7, 3) := by decide +kernel
theorem dX8_scope_46 : decode cX8_scope 46 = .ok (.iload_n 3, 1) := by decide +kernel
theorem dX8_scope_47 : decode cX8_scope 47 = .ok (.goto 15, 3) := by decide +kernel
theorem dX8_scope_50 : decode cX8_scope 50 = .ok (.aload_n 0, 1) := by decide +kernel
theorem dX8_scope_51 : decode cX8_scope 51 = .ok (.getfield 10, 3) := by decide +kernel
theorem dX8_scope_54 : decode cX8_scope 54 = .ok (.getfield 208, 3) := by decide +kernel
theorem dX8_scope_57 : decode cX8_scope 57 = .ok (.iload_n 3, 1) := by decide +kernel
theorem dX8_scope_58 : decode cX8_scope 58 = .ok (.iload_n 2, 1) := by decide +kernel
theorem dX8_scope_59 : decode cX8_scope 59 = .ok (.invokevirtual 212, 3) := by decide +kernel
theorem dX8_scope_62 : decode cX8_scope 62 = .ok (.ireturn, 1) := by decide +kernel
set_option maxRecDepth 20000 in
theorem ggX8_ifGo_X8_isLoad : GoodIn wsX8_ifGo wsX8_isLoad := goodIn_r _ [7, 8, 9, 6, 10] (by decide +kernel) (by decide +kernel)
set_option maxRecDepth 20000 in
theorem gX8_ifGo_X8_isLoad : GoodIn wsX8_ifGo (va_wsS RX8 52 yX8_isLoad wsX8_isLoad) := goodIn_app (goodIn_of _ (by decide +kernel)) ggX8_ifGo_X8_isLoad
set_option maxRecDepth 20000 in
theorem ggX8_ifGo_X8_isWithin : GoodIn wsX8_ifGo wsX8_isWithin := goodIn_r _ [10] (by decide +kernel) (by decide +kernel)
set_option maxRecDepth 20000 in
theorem gX8_ifGo_X8_isWithin : GoodIn wsX8_ifGo (va_wsS RX8 66 yX8_isWithin wsX8_isWithin) := goodIn_app (goodIn_of _ (by decide +kernel)) ggX8_ifGo_X8_isWithin
set_option maxRecDepth 20000 in
theorem ggX8_ifGo_X0_copyFrom : GoodIn wsX8_ifGo wsX0_copyFrom := goodIn_r _ [15, 16, 17, 18, 19, 20, 21, 22, 23, 24, 25, 26, 27, 28, 29, 30, 31, 32, 33, 34, 35, 36, 37, 38, 39, 40, 41, 42, 43, 44, 45, 46, 47, 48, 49, 50, 51, 52, 53, 54, 55, 56, 57, 58, 59, 60, 61, 62, 63, 64, 65, 66, 67, 68, 69, 70, 71, 72, 73, 74, 75, 76, 77, 78, 79, 80, 213, 214, 215, 216, 217, 200, 201, 202, 203, 204, 205, 206, 207, 208, 209, 210, 211, 212, 218, 219, 220, 221, 222, 223, 224, 225, 226, 227, 228, 229, 230, 231, 232, 233, 234] (by decide +kernel) (by decide +kernel)
set_option maxRecDepth 20000 in
theorem gX8_ifGo_X0_copyFrom : GoodIn wsX8_ifGo (wsV RX8 217 RX0 yX0_copyFrom wsX0_copyFrom) := goodIn_app (goodIn_of _ (by decide +kernel)) ggX8_ifGo_X0_copyFrom
set_option maxRecDepth 20000 in
theorem ggX8_ifGo_X0_pass : GoodIn wsX8_ifGo wsX0_pass := goodIn_r _ [84, 16, 20, 18, 17, 19, 85, 86, 87, 24, 88, 33, 37, 34, 89, 90, 91, 92, 26, 27, 35, 36, 93, 94, 95, 54, 96, 56, 97, 98, 99, 100, 101, 102, 103, 104, 29, 105, 106, 107, 108, 109, 110, 111, 42, 112, 45, 47, 113, 114, 115, 116, 48, 49, 46, 117, 118, 119, 120, 50, 121, 122, 123, 124, 125, 126, 127, 128, 28, 30, 129, 130, 131, 132, 133, 134, 135, 136, 137, 38, 138, 139, 140, 141, 142, 143, 144, 145, 146, 147, 148, 149, 150, 151, 31, 152, 153, 154, 155, 156, 157, 158, 159, 160, 161, 162, 163, 32, 164, 165, 166, 167, 168, 169, 170, 171, 172, 173, 174, 64, 175, 66, 176, 6, 177, 8, 9, 10, 178, 179, 180, 181, 67, 68, 69, 182, 183, 184, 74, 185, 76, 78, 79, 80, 186, 187, 188, 189, 190, 191, 213, 214, 215, 216, 217, 200, 201, 202, 203, 204, 205, 206, 207, 208, 209, 210, 211, 212, 225, 226, 227, 228, 229, 230, 218, 219, 220, 221, 222, 223, 224, 231, 232, 233, 234] (by decide +kernel) (by decide +kernel)
set_option maxRecDepth 20000 in
theorem gX8_ifGo_X0_pass : GoodIn wsX8_ifGo (wsV RX8 93 RX0 yX0_pass wsX0_pass) := goodIn_app (goodIn_of _ (by decide +kernel)) ggX8_ifGo_X0_pass
set_option maxRecDepth 20000 in
theorem ggX8_ifGo_X0_loadAt : GoodIn wsX8_ifGo wsX0_loadAt := goodIn_r _ [195, 16, 17, 213, 214, 215, 216, 217] (by decide +kernel) (by decide +kernel)
set_option maxRecDepth 20000 in
theorem gX8_ifGo_X0_loadAt : GoodIn wsX8_ifGo (wsV RX8 56 RX0 yX0_loadAt wsX0_loadAt) := goodIn_app (goodIn_of _ (by decide +kernel)) ggX8_ifGo_X0_loadAt
theorem dX8_ifGo_0 : decode cX8_ifGo 0 = .ok (.iload_n 1, 1) := by decide +kernel
theorem dX8_ifGo_1 : decode cX8_ifGo 1 = .ok (.invokestatic 52, 3) := by decide +kernel
theorem dX8_ifGo_4 : decode cX8_ifGo 4 = .ok (.ifCond .eq 14, 3) := by decide +kernel
theorem dX8_ifGo_7 : decode cX8_ifGo 7 = .ok (.iload_n 2, 1) := by decide +kernel
theorem dX8_ifGo_8 : decode cX8_ifGo 8 = .ok (.iconst 1, 1) := by decide +kernel
theorem dX8_ifGo_9 : decode cX8_ifGo 9 = .ok (.sipush 1000, 3) := by decide +kernel
theorem dX8_ifGo_12 : decode cX8_ifGo 12 = .ok (.invokestatic 66, 3) := by decide +kernel
theorem dX8_ifGo_15 : decode cX8_ifGo 15 = .ok (.ifCond .ne 6, 3) := by decide +kernel
theorem dX8_ifGo_18 : decode cX8_ifGo 18 = .ok (.ldc 43, 2) := by decide +kernel
theorem dX8_ifGo_20 : decode cX8_ifGo 20 = .ok (.ireturn, 1) := by decide +kernel
theorem dX8_ifGo_21 : decode cX8_ifGo 21 = .ok (.aload_n 0, 1) := by decide +kernel
theorem dX8_ifGo_22 : decode cX8_ifGo 22 = .ok (.getfield 16, 3) := by decide +kernel
theorem dX8_ifGo_25 : decode cX8_ifGo 25 = .ok (.aload_n 0, 1) := by decide +kernel
theorem dX8_ifGo_26 : decode cX8_ifGo 26 = .ok (.getfield 10, 3) := by decide +kernel
theorem dX8_ifGo_29 : decode cX8_ifGo 29 = .ok (.invokevirtual 217, 3) := by decide +kernel
theorem dX8_ifGo_32 : decode cX8_ifGo 32 = .ok (.aload_n 0, 1) := by decide +kernel
theorem dX8_ifGo_33 : decode cX8_ifGo 33 = .ok (.getfield 16, 3) := by decide +kernel
theorem dX8_ifGo_36 : decode cX8_ifGo 36 = .ok (.iload_n 2, 1) := by decide +kernel
theorem dX8_ifGo_37 : decode cX8_ifGo 37 = .ok (.invokevirtual 93, 3) := by decide +kernel
theorem dX8_ifGo_40 : decode cX8_ifGo 40 = .ok (.pop, 1) := by decide +kernel
theorem dX8_ifGo_41 : decode cX8_ifGo 41 = .ok (.aload_n 0, 1) := by decide +kernel
theorem dX8_ifGo_42 : decode cX8_ifGo 42 = .ok (.getfield 16, 3) := by decide +kernel
theorem dX8_ifGo_45 : decode cX8_ifGo 45 = .ok (.iload_n 1, 1) := by decide +kernel
theorem dX8_ifGo_46 : decode cX8_ifGo 46 = .ok (.invokevirtual 56, 3) := by decide +kernel
theorem dX8_ifGo_49 : decode cX8_ifGo 49 = .ok (.getfield 173, 3) := by decide +kernel
theorem dX8_ifGo_52 : decode cX8_ifGo 52 = .ok (.ireturn, 1) := by decide +kernel
set_option maxRecDepth 20000 in
theorem ggX8_isLeg_X8_isWithin : GoodIn wsX8_isLeg wsX8_isWithin := goodIn_r _ [4] (by decide +kernel) (by decide +kernel)
set_option maxRecDepth 20000 in
theorem gX8_isLeg_X8_isWithin : GoodIn wsX8_isLeg (va_wsS RX8 66 yX8_isWithin wsX8_isWithin) := goodIn_app (goodIn_of _ (by decide +kernel)) ggX8_isLeg_X8_isWithin
theorem dX8_isLeg_0 : decode cX8_isLeg 0 = .ok (.iload_n 0, 1) := by decide +kernel
theorem dX8_isLeg_1 : decode cX8_isLeg 1 = .ok (.iconst 0, 1) := by decide +kernel
theorem dX8_isLeg_2 : decode cX8_isLeg 2 = .ok (.iconst 3, 1) := by decide +kernel
theorem dX8_isLeg_3 : decode cX8_isLeg 3 = .ok (.invokestatic 66, 3) := by decide +kernel
theorem dX8_isLeg_6 : decode cX8_isLeg 6 = .ok (.ireturn, 1) := by decide +kernel
set_option maxRecDepth 20000 in
theorem ggX8_isLoad_X8_isWithin : GoodIn wsX8_isLoad wsX8_isWithin := goodIn_r _ [4] (by decide +kernel) (by decide +kernel)
set_option maxRecDepth 20000 in
theorem gX8_isLoad_X8_isWithin : GoodIn wsX8_isLoad (va_wsS RX8 66 yX8_isWithin wsX8_isWithin) := goodIn_app (goodIn_of _ (by decide +kernel)) ggX8_isLoad_X8_isWithin
theorem dX8_isLoad_0 : decode cX8_isLoad 0 = .ok (.iload_n 0, 1) := by decide +kernel
theorem dX8_isLoad_1 : decode cX8_isLoad 1 = .ok (.iconst 0, 1) := by decide +kernel
theorem dX8_isLoad_2 : decode cX8_isLoad 2 = .ok (.iconst 1, 1) := by decide +kernel
theorem dX8_isLoad_3 : decode cX8_isLoad 3 = .ok (.invokestatic 66, 3) := by decide +kernel
theorem dX8_isLoad_6 : decode cX8_isLoad 6 = .ok (.ireturn, 1) := by decide +kernel
set_option maxRecDepth 20000 in
theorem ggX8_isFault_X8_isWithin : GoodIn wsX8_isFault wsX8_isWithin := goodIn_r _ [4] (by decide +kernel) (by decide +kernel)
set_option maxRecDepth 20000 in
theorem gX8_isFault_X8_isWithin : GoodIn wsX8_isFault (va_wsS RX8 66 yX8_isWithin wsX8_isWithin) := goodIn_app (goodIn_of _ (by decide +kernel)) ggX8_isFault_X8_isWithin
theorem dX8_isFault_0 : decode cX8_isFault 0 = .ok (.iload_n 0, 1) := by decide +kernel
theorem dX8_isFault_1 : decode cX8_isFault 1 = .ok (.iconst 0, 1) := by decide +kernel
theorem dX8_isFault_2 : decode cX8_isFault 2 = .ok (.iconst 2, 1) := by decide +kernel
theorem dX8_isFault_3 : decode cX8_isFault 3 = .ok (.invokestatic 66, 3) := by decide +kernel
theorem dX8_isFault_6 : decode cX8_isFault 6 = .ok (.ireturn, 1) := by decide +kernel
theorem dX8_isWithin_0 : decode cX8_isWithin 0 = .ok (.iload_n 0, 1) := by decide +kernel
theorem dX8_isWithin_1 : decode cX8_isWithin 1 = .ok (.iload_n 1, 1) := by decide +kernel
theorem dX8_isWithin_2 : decode cX8_isWithin 2 = .ok (.if_icmp .lt 12, 3) := by decide +kernel
theorem dX8_isWithin_5 : decode cX8_isWithin 5 = .ok (.iload_n 0, 1) := by decide +kernel
theorem dX8_isWithin_6 : decode cX8_isWithin 6 = .ok (.iload_n 2, 1) := by decide +kernel
theorem dX8_isWithin_7 : decode cX8_isWithin 7 = .ok (.if_icmp .gt 7, 3) := by decide +kernel
theorem dX8_isWithin_10 : decode cX8_isWithin 10 = .ok (.iconst 1, 1) := by decide +kernel
theorem dX8_isWithin_11 : decode cX8_isWithin 11 = .ok (.goto 4, 3) := by decide +kernel
theorem dX8_isWithin_14 : decode cX8_isWithin 14 = .ok (.iconst 0, 1) := by decide +kernel
theorem dX8_isWithin_15 : decode cX8_isWithin 15 = .ok (.ireturn, 1) := by decide +kernel
theorem dX8_bit_0 : decode cX8_bit 0 = .ok (.iload_n 0, 1) := by decide +kernel
theorem dX8_bit_1 : decode cX8_bit 1 = .ok (.ifCond .eq 7, 3) := by decide +kernel
theorem dX8_bit_4 : decode cX8_bit 4 = .ok (.iconst 1, 1) := by decide +kernel
theorem dX8_bit_5 : decode cX8_bit 5 = .ok (.goto 4, 3) := by decide +kernel
theorem dX8_bit_8 : decode cX8_bit 8 = .ok (.iconst 0, 1) := by decide +kernel
theorem dX8_bit_9 : decode cX8_bit 9 = .ok (.ireturn, 1) := by decide +kernel

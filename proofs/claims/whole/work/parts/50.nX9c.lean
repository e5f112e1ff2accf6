set_option maxRecDepth 20000 in
theorem ggX9_until_X9_keeps : GoodIn wsX9_until wsX9_keeps := goodIn_r _ [14, 15, 16, 17, 18, 84, 85, 86, 87, 88, 89, 90, 91, 92, 93, 94, 95, 96] (by decide +kernel) (by decide +kernel)
set_option maxRecDepth 20000 in
theorem gX9_until_X9_keeps : GoodIn wsX9_until (wsV RX9 160 RX9 yX9_keeps wsX9_keeps) := goodIn_app (goodIn_of _ (by decide +kernel)) ggX9_until_X9_keeps
set_option maxRecDepth 20000 in
theorem ggX9_until_X9_sizeOf : GoodIn wsX9_until wsX9_sizeOf := goodIn_r _ [22, 16, 23, 24, 6, 25, 84, 85, 86, 87, 88, 89, 90, 91, 92, 93, 94, 95, 96] (by decide +kernel) (by decide +kernel)
set_option maxRecDepth 20000 in
theorem gX9_until_X9_sizeOf : GoodIn wsX9_until (wsV RX9 64 RX9 yX9_sizeOf wsX9_sizeOf) := goodIn_app (goodIn_of _ (by decide +kernel)) ggX9_until_X9_sizeOf
set_option maxRecDepth 20000 in
theorem ggX9_until_X9_goes : GoodIn wsX9_until wsX9_goes := goodIn_r _ [29, 16, 17, 30, 31, 32, 6, 33, 34, 35, 36, 37, 38, 39, 40, 41, 23, 24, 25, 42, 43, 44, 45, 46, 47, 48, 49, 50, 51, 52, 53, 54, 55, 56, 57, 58, 59, 60, 61, 62, 63, 19, 20, 21, 22, 64, 65, 66, 67, 68, 69, 70, 71, 72, 73, 74, 75, 76, 77, 78, 79, 84, 85, 86, 87, 88, 89, 90, 91, 92, 93, 94, 95, 96] (by decide +kernel) (by decide +kernel)
set_option maxRecDepth 20000 in
theorem gX9_until_X9_goes : GoodIn wsX9_until (wsV RX9 130 RX9 yX9_goes wsX9_goes) := goodIn_app (goodIn_of _ (by decide +kernel)) ggX9_until_X9_goes
set_option maxRecDepth 20000 in
theorem ggX9_until_X9_restores : GoodIn wsX9_until wsX9_restores := goodIn_r _ [83, 16, 15, 18, 17, 84, 85, 86, 87, 88, 89, 90, 91, 92, 93, 94, 95, 96] (by decide +kernel) (by decide +kernel)
set_option maxRecDepth 20000 in
theorem gX9_until_X9_restores : GoodIn wsX9_until (wsV RX9 163 RX9 yX9_restores wsX9_restores) := goodIn_app (goodIn_of _ (by decide +kernel)) ggX9_until_X9_restores
theorem dX9_until_0 : decode cX9_until 0 = .ok (.iload_n 1, 1) := by decide +kernel
theorem dX9_until_1 : decode cX9_until 1 = .ok (.invokestatic 118, 3) := by decide +kernel
theorem dX9_until_4 : decode cX9_until 4 = .ok (.ifCond .eq 15, 3) := by decide +kernel
theorem dX9_until_7 : decode cX9_until 7 = .ok (.iload_n 2, 1) := by decide +kernel
theorem dX9_until_8 : decode cX9_until 8 = .ok (.i2l, 1) := by decide +kernel
theorem dX9_until_9 : decode cX9_until 9 = .ok (.lconst 1, 1) := by decide +kernel
theorem dX9_until_10 : decode cX9_until 10 = .ok (.ldc2_w 101, 3) := by decide +kernel
theorem dX9_until_13 : decode cX9_until 13 = .ok (.invokestatic 33, 3) := by decide +kernel
theorem dX9_until_16 : decode cX9_until 16 = .ok (.ifCond .ne 6, 3) := by decide +kernel
theorem dX9_until_19 : decode cX9_until 19 = .ok (.ldc 112, 2) := by decide +kernel
theorem dX9_until_21 : decode cX9_until 21 = .ok (.ireturn, 1) := by decide +kernel
theorem dX9_until_22 : decode cX9_until 22 = .ok (.aload_n 0, 1) := by decide +kernel
theorem dX9_until_23 : decode cX9_until 23 = .ok (.invokevirtual 160, 3) := by decide +kernel
theorem dX9_until_26 : decode cX9_until 26 = .ok (.iconst 0, 1) := by decide +kernel
theorem dX9_until_27 : decode cX9_until 27 = .ok (.istore_n 3, 1) := by decide +kernel
theorem dX9_until_28 : decode cX9_until 28 = .ok (.aload_n 0, 1) := by decide +kernel
theorem dX9_until_29 : decode cX9_until 29 = .ok (.iload_n 1, 1) := by decide +kernel
theorem dX9_until_30 : decode cX9_until 30 = .ok (.invokevirtual 64, 3) := by decide +kernel
theorem dX9_until_33 : decode cX9_until 33 = .ok (.iload_n 2, 1) := by decide +kernel
theorem dX9_until_34 : decode cX9_until 34 = .ok (.if_icmp .ge 21, 3) := by decide +kernel
theorem dX9_until_37 : decode cX9_until 37 = .ok (.iload_n 3, 1) := by decide +kernel
theorem dX9_until_38 : decode cX9_until 38 = .ok (.sipush 1000, 3) := by decide +kernel
theorem dX9_until_41 : decode cX9_until 41 = .ok (.if_icmp .ge 14, 3) := by decide +kernel
theorem dX9_until_44 : decode cX9_until 44 = .ok (.aload_n 0, 1) := by decide +kernel
theorem dX9_until_45 : decode cX9_until 45 = .ok (.invokevirtual 130, 3) := by decide +kernel
theorem dX9_until_48 : decode cX9_until 48 = .ok (.pop, 1) := by decide +kernel
theorem dX9_until_49 : decode cX9_until 49 = .ok (.iinc 3 1, 3) := by decide +kernel
theorem dX9_until_52 : decode cX9_until 52 = .ok (.goto (-24), 3) := by decide +kernel
theorem dX9_until_55 : decode cX9_until 55 = .ok (.aload_n 0, 1) := by decide +kernel
theorem dX9_until_56 : decode cX9_until 56 = .ok (.iload_n 1, 1) := by decide +kernel
theorem dX9_until_57 : decode cX9_until 57 = .ok (.invokevirtual 64, 3) := by decide +kernel
theorem dX9_until_60 : decode cX9_until 60 = .ok (.iload_n 2, 1) := by decide +kernel
theorem dX9_until_61 : decode cX9_until 61 = .ok (.if_icmp .lt 7, 3) := by decide +kernel
theorem dX9_until_64 : decode cX9_until 64 = .ok (.iconst 1, 1) := by decide +kernel
theorem dX9_until_65 : decode cX9_until 65 = .ok (.goto 4, 3) := by decide +kernel
theorem dX9_until_68 : decode cX9_until 68 = .ok (.iconst 0, 1) := by decide +kernel
theorem dX9_until_69 : decode cX9_until 69 = .ok (.istore 4, 2) := by decide +kernel
theorem dX9_until_71 : decode cX9_until 71 = .ok (.aload_n 0, 1) := by decide +kernel
theorem dX9_until_72 : decode cX9_until 72 = .ok (.invokevirtual 163, 3) := by decide +kernel
theorem dX9_until_75 : decode cX9_until 75 = .ok (.iload 4, 2) := by decide +kernel
theorem dX9_until_77 : decode cX9_until 77 = .ok (.ifCond .eq 7, 3) := by decide +kernel
theorem dX9_until_80 : decode cX9_until 80 = .ok (.iload_n 3, 1) := by decide +kernel
theorem dX9_until_81 : decode cX9_until 81 = .ok (.goto 5, 3) := by decide +kernel
theorem dX9_until_84 : decode cX9_until 84 = .ok (.ldc 154, 2) := by decide +kernel
theorem dX9_until_86 : decode cX9_until 86 = .ok (.ireturn, 1) := by decide +kernel
set_option maxRecDepth 20000 in
theorem ggX9_ifGo_X9_isLoad : GoodIn wsX9_ifGo wsX9_isLoad := goodIn_r _ [7, 8, 9, 6, 10] (by decide +kernel) (by decide +kernel)
set_option maxRecDepth 20000 in
theorem gX9_ifGo_X9_isLoad : GoodIn wsX9_ifGo (va_wsS RX9 118 yX9_isLoad wsX9_isLoad) := goodIn_app (goodIn_of _ (by decide +kernel)) ggX9_ifGo_X9_isLoad
set_option maxRecDepth 20000 in
theorem ggX9_ifGo_X9_in : GoodIn wsX9_ifGo wsX9_in := goodIn_r _ [10] (by decide +kernel) (by decide +kernel)
set_option maxRecDepth 20000 in
theorem gX9_ifGo_X9_in : GoodIn wsX9_ifGo (va_wsS RX9 33 yX9_in wsX9_in) := goodIn_app (goodIn_of _ (by decide +kernel)) ggX9_ifGo_X9_in
set_option maxRecDepth 20000 in
theorem ggX9_ifGo_X9_keeps : GoodIn wsX9_ifGo wsX9_keeps := goodIn_r _ [14, 15, 3, 16, 17, 82, 83, 84, 85, 86, 87, 88, 89, 90, 91, 92, 93, 94] (by decide +kernel) (by decide +kernel)
set_option maxRecDepth 20000 in
theorem gX9_ifGo_X9_keeps : GoodIn wsX9_ifGo (wsV RX9 160 RX9 yX9_keeps wsX9_keeps) := goodIn_app (goodIn_of _ (by decide +kernel)) ggX9_ifGo_X9_keeps
set_option maxRecDepth 20000 in
theorem ggX9_ifGo_X9_goes : GoodIn wsX9_ifGo wsX9_goes := goodIn_r _ [21, 3, 16, 22, 23, 24, 6, 25, 26, 27, 28, 29, 30, 31, 32, 33, 34, 35, 36, 37, 38, 39, 40, 41, 42, 43, 44, 45, 46, 47, 48, 49, 50, 51, 52, 53, 54, 55, 56, 1, 57, 58, 59, 60, 61, 62, 63, 64, 65, 66, 67, 68, 69, 70, 71, 72, 73, 74, 75, 76, 77, 82, 83, 84, 85, 86, 87, 88, 89, 90, 91, 92, 93, 94] (by decide +kernel) (by decide +kernel)
set_option maxRecDepth 20000 in
theorem gX9_ifGo_X9_goes : GoodIn wsX9_ifGo (wsV RX9 130 RX9 yX9_goes wsX9_goes) := goodIn_app (goodIn_of _ (by decide +kernel)) ggX9_ifGo_X9_goes
set_option maxRecDepth 20000 in
theorem ggX9_ifGo_X9_loadAt : GoodIn wsX9_ifGo wsX9_loadAt := goodIn_r _ [36] (by decide +kernel) (by decide +kernel)
set_option maxRecDepth 20000 in
theorem gX9_ifGo_X9_loadAt : GoodIn wsX9_ifGo (va_wsS RX9 45 yX9_loadAt wsX9_loadAt) := goodIn_app (goodIn_of _ (by decide +kernel)) ggX9_ifGo_X9_loadAt
set_option maxRecDepth 20000 in
theorem ggX9_ifGo_X9_restores : GoodIn wsX9_ifGo wsX9_restores := goodIn_r _ [81, 3, 15, 17, 16, 82, 83, 84, 85, 86, 87, 88, 89, 90, 91, 92, 93, 94] (by decide +kernel) (by decide +kernel)
set_option maxRecDepth 20000 in
theorem gX9_ifGo_X9_restores : GoodIn wsX9_ifGo (wsV RX9 163 RX9 yX9_restores wsX9_restores) := goodIn_app (goodIn_of _ (by decide +kernel)) ggX9_ifGo_X9_restores
theorem dX9_ifGo_0 : decode cX9_ifGo 0 = .ok (.iload_n 1, 1) := by decide +kernel
theorem dX9_ifGo_1 : decode cX9_ifGo 1 = .ok (.invokestatic 118, 3) := by decide +kernel
theorem dX9_ifGo_4 : decode cX9_ifGo 4 = .ok (.ifCond .eq 15, 3) := by decide +kernel
theorem dX9_ifGo_7 : decode cX9_ifGo 7 = .ok (.iload_n 2, 1) := by decide +kernel
theorem dX9_ifGo_8 : decode cX9_ifGo 8 = .ok (.i2l, 1) := by decide +kernel
theorem dX9_ifGo_9 : decode cX9_ifGo 9 = .ok (.lconst 1, 1) := by decide +kernel
theorem dX9_ifGo_10 : decode cX9_ifGo 10 = .ok (.ldc2_w 67, 3) := by decide +kernel
theorem dX9_ifGo_13 : decode cX9_ifGo 13 = .ok (.invokestatic 33, 3) := by decide +kernel
theorem dX9_ifGo_16 : decode cX9_ifGo 16 = .ok (.ifCond .ne 6, 3) := by decide +kernel
theorem dX9_ifGo_19 : decode cX9_ifGo 19 = .ok (.ldc 112, 2) := by decide +kernel
theorem dX9_ifGo_21 : decode cX9_ifGo 21 = .ok (.ireturn, 1) := by decide +kernel
theorem dX9_ifGo_22 : decode cX9_ifGo 22 = .ok (.aload_n 0, 1) := by decide +kernel
theorem dX9_ifGo_23 : decode cX9_ifGo 23 = .ok (.invokevirtual 160, 3) := by decide +kernel
theorem dX9_ifGo_26 : decode cX9_ifGo 26 = .ok (.iconst 0, 1) := by decide +kernel
theorem dX9_ifGo_27 : decode cX9_ifGo 27 = .ok (.istore_n 3, 1) := by decide +kernel
theorem dX9_ifGo_28 : decode cX9_ifGo 28 = .ok (.iload_n 3, 1) := by decide +kernel
theorem dX9_ifGo_29 : decode cX9_ifGo 29 = .ok (.iload_n 2, 1) := by decide +kernel
theorem dX9_ifGo_30 : decode cX9_ifGo 30 = .ok (.if_icmp .ge 14, 3) := by decide +kernel
theorem dX9_ifGo_33 : decode cX9_ifGo 33 = .ok (.aload_n 0, 1) := by decide +kernel
theorem dX9_ifGo_34 : decode cX9_ifGo 34 = .ok (.invokevirtual 130, 3) := by decide +kernel
theorem dX9_ifGo_37 : decode cX9_ifGo 37 = .ok (.pop, 1) := by decide +kernel
theorem dX9_ifGo_38 : decode cX9_ifGo 38 = .ok (.iinc 3 1, 3) := by decide +kernel
theorem dX9_ifGo_41 : decode cX9_ifGo 41 = .ok (.goto (-13), 3) := by decide +kernel
theorem dX9_ifGo_44 : decode cX9_ifGo 44 = .ok (.aload_n 0, 1) := by decide +kernel
theorem dX9_ifGo_45 : decode cX9_ifGo 45 = .ok (.getfield 7, 3) := by decide +kernel
theorem dX9_ifGo_48 : decode cX9_ifGo 48 = .ok (.iload_n 1, 1) := by decide +kernel
theorem dX9_ifGo_49 : decode cX9_ifGo 49 = .ok (.invokestatic 45, 3) := by decide +kernel
theorem dX9_ifGo_52 : decode cX9_ifGo 52 = .ok (.iconst 4, 1) := by decide +kernel
theorem dX9_ifGo_53 : decode cX9_ifGo 53 = .ok (.iadd, 1) := by decide +kernel
theorem dX9_ifGo_54 : decode cX9_ifGo 54 = .ok (.iaload, 1) := by decide +kernel
theorem dX9_ifGo_55 : decode cX9_ifGo 55 = .ok (.istore_n 3, 1) := by decide +kernel
theorem dX9_ifGo_56 : decode cX9_ifGo 56 = .ok (.aload_n 0, 1) := by decide +kernel
theorem dX9_ifGo_57 : decode cX9_ifGo 57 = .ok (.invokevirtual 163, 3) := by decide +kernel
theorem dX9_ifGo_60 : decode cX9_ifGo 60 = .ok (.iload_n 3, 1) := by decide +kernel
theorem dX9_ifGo_61 : decode cX9_ifGo 61 = .ok (.ireturn, 1) := by decide +kernel
set_option maxRecDepth 20000 in
theorem ggX9_type_X9_in : GoodIn wsX9_type wsX9_in := goodIn_r _ [10] (by decide +kernel) (by decide +kernel)
set_option maxRecDepth 20000 in
theorem gX9_type_X9_in : GoodIn wsX9_type (va_wsS RX9 33 yX9_in wsX9_in) := goodIn_app (goodIn_of _ (by decide +kernel)) ggX9_type_X9_in
theorem dX9_type_0 : decode cX9_type 0 = .ok (.iload_n 1, 1) := by decide +kernel
theorem dX9_type_1 : decode cX9_type 1 = .ok (.i2l, 1) := by decide +kernel
theorem dX9_type_2 : decode cX9_type 2 = .ok (.ldc2_w 166, 3) := by decide +kernel
theorem dX9_type_5 : decode cX9_type 5 = .ok (.ldc2_w 168, 3) := by decide +kernel
theorem dX9_type_8 : decode cX9_type 8 = .ok (.invokestatic 33, 3) := by decide +kernel
theorem dX9_type_11 : decode cX9_type 11 = .ok (.ifCond .ne 6, 3) := by decide +kernel
theorem dX9_type_14 : decode cX9_type 14 = .ok (.ldc 112, 2) := by decide +kernel
theorem dX9_type_16 : decode cX9_type 16 = .ok (.ireturn, 1) := by decide +kernel
theorem dX9_type_17 : decode cX9_type 17 = .ok (.aload_n 0, 1) := by decide +kernel
theorem dX9_type_18 : decode cX9_type 18 = .ok (.getfield 145, 3) := by decide +kernel
theorem dX9_type_21 : decode cX9_type 21 = .ok (.bipush 80, 2) := by decide +kernel
theorem dX9_type_23 : decode cX9_type 23 = .ok (.if_icmp .ne 6, 3) := by decide +kernel
theorem dX9_type_26 : decode cX9_type 26 = .ok (.ldc 129, 2) := by decide +kernel
theorem dX9_type_28 : decode cX9_type 28 = .ok (.ireturn, 1) := by decide +kernel
theorem dX9_type_29 : decode cX9_type 29 = .ok (.aload_n 0, 1) := by decide +kernel
theorem dX9_type_30 : decode cX9_type 30 = .ok (.getfield 23, 3) := by decide +kernel
theorem dX9_type_33 : decode cX9_type 33 = .ok (.aload_n 0, 1) := by decide +kernel
theorem dX9_type_34 : decode cX9_type 34 = .ok (.getfield 145, 3) := by decide +kernel
theorem dX9_type_37 : decode cX9_type 37 = .ok (.iload_n 1, 1) := by decide +kernel
theorem dX9_type_38 : decode cX9_type 38 = .ok (.i2c, 1) := by decide +kernel
theorem dX9_type_39 : decode cX9_type 39 = .ok (.castore, 1) := by decide +kernel
theorem dX9_type_40 : decode cX9_type 40 = .ok (.aload_n 0, 1) := by decide +kernel
theorem dX9_type_41 : decode cX9_type 41 = .ok (.dup, 1) := by decide +kernel
theorem dX9_type_42 : decode cX9_type 42 = .ok (.getfield 145, 3) := by decide +kernel
theorem dX9_type_45 : decode cX9_type 45 = .ok (.iconst 1, 1) := by decide +kernel
theorem dX9_type_46 : decode cX9_type 46 = .ok (.iadd, 1) := by decide +kernel
theorem dX9_type_47 : decode cX9_type 47 = .ok (.putfield 145, 3) := by decide +kernel
theorem dX9_type_50 : decode cX9_type 50 = .ok (.aload_n 0, 1) := by decide +kernel
theorem dX9_type_51 : decode cX9_type 51 = .ok (.getfield 145, 3) := by decide +kernel
theorem dX9_type_54 : decode cX9_type 54 = .ok (.ireturn, 1) := by decide +kernel
theorem dX9_clearText_0 : decode cX9_clearText 0 = .ok (.aload_n 0, 1) := by decide +kernel
theorem dX9_clearText_1 : decode cX9_clearText 1 = .ok (.getfield 145, 3) := by decide +kernel
theorem dX9_clearText_4 : decode cX9_clearText 4 = .ok (.istore_n 1, 1) := by decide +kernel
theorem dX9_clearText_5 : decode cX9_clearText 5 = .ok (.aload_n 0, 1) := by decide +kernel
theorem dX9_clearText_6 : decode cX9_clearText 6 = .ok (.iconst 0, 1) := by decide +kernel
theorem dX9_clearText_7 : decode cX9_clearText 7 = .ok (.putfield 145, 3) := by decide +kernel
theorem dX9_clearText_10 : decode cX9_clearText 10 = .ok (.iload_n 1, 1) := by decide +kernel
theorem dX9_clearText_11 : decode cX9_clearText 11 = .ok (.ireturn, 1) := by decide +kernel
theorem dX9_sign_0 : decode cX9_sign 0 = .ok (.aload_n 0, 1) := by decide +kernel
theorem dX9_sign_1 : decode cX9_sign 1 = .ok (.getfield 170, 3) := by decide +kernel
theorem dX9_sign_4 : decode cX9_sign 4 = .ok (.aload_n 0, 1) := by decide +kernel
theorem dX9_sign_5 : decode cX9_sign 5 = .ok (.getfield 145, 3) := by decide +kernel
theorem dX9_sign_8 : decode cX9_sign 8 = .ok (.if_icmp .ge 15, 3) := by decide +kernel
theorem dX9_sign_11 : decode cX9_sign 11 = .ok (.aload_n 0, 1) := by decide +kernel
theorem dX9_sign_12 : decode cX9_sign 12 = .ok (.getfield 23, 3) := by decide +kernel
theorem dX9_sign_15 : decode cX9_sign 15 = .ok (.aload_n 0, 1) := by decide +kernel
theorem dX9_sign_16 : decode cX9_sign 16 = .ok (.getfield 170, 3) := by decide +kernel
theorem dX9_sign_19 : decode cX9_sign 19 = .ok (.caload, 1) := by decide +kernel
theorem dX9_sign_20 : decode cX9_sign 20 = .ok (.goto 4, 3) := by decide +kernel
theorem dX9_sign_23 : decode cX9_sign 23 = .ok (.iconst 0, 1) := by decide +kernel
theorem dX9_sign_24 : decode cX9_sign 24 = .ok (.ireturn, 1) := by decide +kernel
theorem dX9_letterOf_0 : decode cX9_letterOf 0 = .ok (.iload_n 0, 1) := by decide +kernel
theorem dX9_letterOf_1 : decode cX9_letterOf 1 = .ok (.bipush 111, 2) := by decide +kernel
theorem dX9_letterOf_3 : decode cX9_letterOf 3 = .ok (.if_icmp .ne 7, 3) := by decide +kernel
theorem dX9_letterOf_6 : decode cX9_letterOf 6 = .ok (.iconst 0, 1) := by decide +kernel
theorem dX9_letterOf_7 : decode cX9_letterOf 7 = .ok (.goto 34, 3) := by decide +kernel
theorem dX9_letterOf_10 : decode cX9_letterOf 10 = .ok (.iload_n 0, 1) := by decide +kernel
theorem dX9_letterOf_11 : decode cX9_letterOf 11 = .ok (.bipush 104, 2) := by decide +kernel
theorem dX9_letterOf_13 : decode cX9_letterOf 13 = .ok (.if_icmp .ne 7, 3) := by decide +kernel
theorem dX9_letterOf_16 : decode cX9_letterOf 16 = .ok (.iconst 1, 1) := by decide +kernel
theorem dX9_letterOf_17 : decode cX9_letterOf 17 = .ok (.goto 24, 3) := by decide +kernel
theorem dX9_letterOf_20 : decode cX9_letterOf 20 = .ok (.iload_n 0, 1) := by decide +kernel
theorem dX9_letterOf_21 : decode cX9_letterOf 21 = .ok (.bipush 108, 2) := by decide +kernel
theorem dX9_letterOf_23 : decode cX9_letterOf 23 = .ok (.if_icmp .ne 7, 3) := by decide +kernel
theorem dX9_letterOf_26 : decode cX9_letterOf 26 = .ok (.iconst 2, 1) := by decide +kernel
theorem dX9_letterOf_27 : decode cX9_letterOf 27 = .ok (.goto 14, 3) := by decide +kernel
theorem dX9_letterOf_30 : decode cX9_letterOf 30 = .ok (.iload_n 0, 1) := by decide +kernel
theorem dX9_letterOf_31 : decode cX9_letterOf 31 = .ok (.bipush 61, 2) := by decide +kernel
theorem dX9_letterOf_33 : decode cX9_letterOf 33 = .ok (.if_icmp .ne 7, 3) := by decide +kernel
theorem dX9_letterOf_36 : decode cX9_letterOf 36 = .ok (.iconst 3, 1) := by decide +kernel
theorem dX9_letterOf_37 : decode cX9_letterOf 37 = .ok (.goto 4, 3) := by decide +kernel
theorem dX9_letterOf_40 : decode cX9_letterOf 40 = .ok (.iconst (-1), 1) := by decide +kernel
theorem dX9_letterOf_41 : decode cX9_letterOf 41 = .ok (.ireturn, 1) := by decide +kernel
set_option maxRecDepth 20000 in
theorem ggX9_reads_X9_sign : GoodIn wsX9_reads wsX9_sign := goodIn_r _ [13, 2, 14, 7, 21, 22, 23, 24, 25, 26, 27, 28, 29, 30, 31, 32, 33] (by decide +kernel) (by decide +kernel)
set_option maxRecDepth 20000 in
theorem gX9_reads_X9_sign : GoodIn wsX9_reads (wsV RX9 173 RX9 yX9_sign wsX9_sign) := goodIn_app (goodIn_of _ (by decide +kernel)) ggX9_reads_X9_sign
set_option maxRecDepth 20000 in
theorem ggX9_reads_X9_letterOf : GoodIn wsX9_reads wsX9_letterOf := goodIn_r _ [17] (by decide +kernel) (by decide +kernel)
set_option maxRecDepth 20000 in
theorem gX9_reads_X9_letterOf : GoodIn wsX9_reads (va_wsS RX9 176 yX9_letterOf wsX9_letterOf) := goodIn_app (goodIn_of _ (by decide +kernel)) ggX9_reads_X9_letterOf
set_option maxRecDepth 20000 in
theorem ggX9_reads_X9_in : GoodIn wsX9_reads wsX9_in := goodIn_r _ [20] (by decide +kernel) (by decide +kernel)
set_option maxRecDepth 20000 in
theorem gX9_reads_X9_in : GoodIn wsX9_reads (va_wsS RX9 33 yX9_in wsX9_in) := goodIn_app (goodIn_of _ (by decide +kernel)) ggX9_reads_X9_in
theorem dX9_reads_0 : decode cX9_reads 0 = .ok (.iconst 0, 1) := by decide +kernel
theorem dX9_reads_1 : decode cX9_reads 1 = .ok (.istore_n 1, 1) := by decide +kernel
theorem dX9_reads_2 : decode cX9_reads 2 = .ok (.iload_n 1, 1) := by decide +kernel
theorem dX9_reads_3 : decode cX9_reads 3 = .ok (.iconst 4, 1) := by decide +kernel
theorem dX9_reads_4 : decode cX9_reads 4 = .ok (.if_icmp .ge 52, 3) := by decide +kernel
theorem dX9_reads_7 : decode cX9_reads 7 = .ok (.aload_n 0, 1) := by decide +kernel
theorem dX9_reads_8 : decode cX9_reads 8 = .ok (.getfield 27, 3) := by decide +kernel
theorem dX9_reads_11 : decode cX9_reads 11 = .ok (.iload_n 1, 1) := by decide +kernel
theorem dX9_reads_12 : decode cX9_reads 12 = .ok (.aload_n 0, 1) := by decide +kernel
theorem dX9_reads_13 : decode cX9_reads 13 = .ok (.invokevirtual 173, 3) := by decide +kernel
theorem dX9_reads_16 : decode cX9_reads 16 = .ok (.invokestatic 176, 3) := by decide +kernel
theorem dX9_reads_19 : decode cX9_reads 19 = .ok (.iastore, 1) := by decide +kernel
theorem dX9_reads_20 : decode cX9_reads 20 = .ok (.aload_n 0, 1) := by decide +kernel
theorem dX9_reads_21 : decode cX9_reads 21 = .ok (.getfield 27, 3) := by decide +kernel
theorem dX9_reads_24 : decode cX9_reads 24 = .ok (.iload_n 1, 1) := by decide +kernel
theorem dX9_reads_25 : decode cX9_reads 25 = .ok (.iaload, 1) := by decide +kernel
theorem dX9_reads_26 : decode cX9_reads 26 = .ok (.iconst (-1), 1) := by decide +kernel
theorem dX9_reads_27 : decode cX9_reads 27 = .ok (.if_icmp .ne 13, 3) := by decide +kernel
theorem dX9_reads_30 : decode cX9_reads 30 = .ok (.aload_n 0, 1) := by decide +kernel
theorem dX9_reads_31 : decode cX9_reads 31 = .ok (.aload_n 0, 1) := by decide +kernel
theorem dX9_reads_32 : decode cX9_reads 32 = .ok (.getfield 170, 3) := by decide +kernel
theorem dX9_reads_35 : decode cX9_reads 35 = .ok (.putfield 179, 3) := by decide +kernel
theorem dX9_reads_38 : decode cX9_reads 38 = .ok (.iconst 0, 1) := by decide +kernel
theorem dX9_reads_39 : decode cX9_reads 39 = .ok (.ireturn, 1) := by decide +kernel
theorem dX9_reads_40 : decode cX9_reads 40 = .ok (.aload_n 0, 1) := by decide +kernel
theorem dX9_reads_41 : decode cX9_reads 41 = .ok (.dup, 1) := by decide +kernel
theorem dX9_reads_42 : decode cX9_reads 42 = .ok (.getfield 170, 3) := by decide +kernel
theorem dX9_reads_45 : decode cX9_reads 45 = .ok (.iconst 1, 1) := by decide +kernel
theorem dX9_reads_46 : decode cX9_reads 46 = .ok (.iadd, 1) := by decide +kernel
theorem dX9_reads_47 : decode cX9_reads 47 = .ok (.putfield 170, 3) := by decide +kernel
theorem dX9_reads_50 : decode cX9_reads 50 = .ok (.iinc 1 1, 3) := by decide +kernel
theorem dX9_reads_53 : decode cX9_reads 53 = .ok (.goto (-51), 3) := by decide +kernel
theorem dX9_reads_56 : decode cX9_reads 56 = .ok (.aload_n 0, 1) := by decide +kernel
theorem dX9_reads_57 : decode cX9_reads 57 = .ok (.iconst 1, 1) := by decide +kernel
theorem dX9_reads_58 : decode cX9_reads 58 = .ok (.putfield 182, 3) := by decide +kernel
theorem dX9_reads_61 : decode cX9_reads 61 = .ok (.aload_n 0, 1) := by decide +kernel
theorem dX9_reads_62 : decode cX9_reads 62 = .ok (.getfield 170, 3) := by decide +kernel
theorem dX9_reads_65 : decode cX9_reads 65 = .ok (.istore_n 1, 1) := by decide +kernel
theorem dX9_reads_66 : decode cX9_reads 66 = .ok (.aload_n 0, 1) := by decide +kernel
theorem dX9_reads_67 : decode cX9_reads 67 = .ok (.invokevirtual 173, 3) := by decide +kernel
theorem dX9_reads_70 : decode cX9_reads 70 = .ok (.bipush 42, 2) := by decide +kernel
theorem dX9_reads_72 : decode cX9_reads 72 = .ok (.if_icmp .ne 87, 3) := by decide +kernel
theorem dX9_reads_75 : decode cX9_reads 75 = .ok (.aload_n 0, 1) := by decide +kernel
theorem dX9_reads_76 : decode cX9_reads 76 = .ok (.dup, 1) := by decide +kernel
theorem dX9_reads_77 : decode cX9_reads 77 = .ok (.getfield 170, 3) := by decide +kernel
theorem dX9_reads_80 : decode cX9_reads 80 = .ok (.iconst 1, 1) := by decide +kernel
theorem dX9_reads_81 : decode cX9_reads 81 = .ok (.iadd, 1) := by decide +kernel
theorem dX9_reads_82 : decode cX9_reads 82 = .ok (.putfield 170, 3) := by decide +kernel
theorem dX9_reads_85 : decode cX9_reads 85 = .ok (.aload_n 0, 1) := by decide +kernel
theorem dX9_reads_86 : decode cX9_reads 86 = .ok (.getfield 170, 3) := by decide +kernel
theorem dX9_reads_89 : decode cX9_reads 89 = .ok (.istore_n 1, 1) := by decide +kernel
theorem dX9_reads_90 : decode cX9_reads 90 = .ok (.aload_n 0, 1) := by decide +kernel
theorem dX9_reads_91 : decode cX9_reads 91 = .ok (.iconst 0, 1) := by decide +kernel
theorem dX9_reads_92 : decode cX9_reads 92 = .ok (.putfield 182, 3) := by decide +kernel
theorem dX9_reads_95 : decode cX9_reads 95 = .ok (.aload_n 0, 1) := by decide +kernel
theorem dX9_reads_96 : decode cX9_reads 96 = .ok (.getfield 170, 3) := by decide +kernel
theorem dX9_reads_99 : decode cX9_reads 99 = .ok (.iload_n 1, 1) := by decide +kernel
theorem dX9_reads_100 : decode cX9_reads 100 = .ok (.iconst 3, 1) := by decide +kernel
theorem dX9_reads_101 : decode cX9_reads 101 = .ok (.iadd, 1) := by decide +kernel
theorem dX9_reads_102 : decode cX9_reads 102 = .ok (.if_icmp .ge 57, 3) := by decide +kernel
theorem dX9_reads_105 : decode cX9_reads 105 = .ok (.aload_n 0, 1) := by decide +kernel
theorem dX9_reads_106 : decode cX9_reads 106 = .ok (.invokevirtual 173, 3) := by decide +kernel
theorem dX9_reads_109 : decode cX9_reads 109 = .ok (.i2l, 1) := by decide +kernel
theorem dX9_reads_110 : decode cX9_reads 110 = .ok (.ldc2_w 185, 3) := by decide +kernel
theorem dX9_reads_113 : decode cX9_reads 113 = .ok (.ldc2_w 187, 3) := by decide +kernel
theorem dX9_reads_116 : decode cX9_reads 116 = .ok (.invokestatic 33, 3) := by decide +kernel
theorem dX9_reads_119 : decode cX9_reads 119 = .ok (.ifCond .eq 40, 3) := by decide +kernel
theorem dX9_reads_122 : decode cX9_reads 122 = .ok (.aload_n 0, 1) := by decide +kernel
theorem dX9_reads_123 : decode cX9_reads 123 = .ok (.bipush 10, 2) := by decide +kernel
theorem dX9_reads_125 : decode cX9_reads 125 = .ok (.aload_n 0, 1) := by decide +kernel
theorem dX9_reads_126 : decode cX9_reads 126 = .ok (.getfield 182, 3) := by decide +kernel
theorem dX9_reads_129 : decode cX9_reads 129 = .ok (.imul, 1) := by decide +kernel
theorem dX9_reads_130 : decode cX9_reads 130 = .ok (.aload_n 0, 1) := by decide +kernel
theorem dX9_reads_131 : decode cX9_reads 131 = .ok (.getfield 23, 3) := by decide +kernel
theorem dX9_reads_134 : decode cX9_reads 134 = .ok (.aload_n 0, 1) := by decide +kernel
theorem dX9_reads_135 : decode cX9_reads 135 = .ok (.getfield 170, 3) := by decide +kernel
theorem dX9_reads_138 : decode cX9_reads 138 = .ok (.caload, 1) := by decide +kernel
theorem dX9_reads_139 : decode cX9_reads 139 = .ok (.iadd, 1) := by decide +kernel
theorem dX9_reads_140 : decode cX9_reads 140 = .ok (.bipush 48, 2) := by decide +kernel
theorem dX9_reads_142 : decode cX9_reads 142 = .ok (.isub, 1) := by decide +kernel
theorem dX9_reads_143 : decode cX9_reads 143 = .ok (.putfield 182, 3) := by decide +kernel
theorem dX9_reads_146 : decode cX9_reads 146 = .ok (.aload_n 0, 1) := by decide +kernel
theorem dX9_reads_147 : decode cX9_reads 147 = .ok (.dup, 1) := by decide +kernel
theorem dX9_reads_148 : decode cX9_reads 148 = .ok (.getfield 170, 3) := by decide +kernel
theorem dX9_reads_151 : decode cX9_reads 151 = .ok (.iconst 1, 1) := by decide +kernel
theorem dX9_reads_152 : decode cX9_reads 152 = .ok (.iadd, 1) := by decide +kernel
theorem dX9_reads_153 : decode cX9_reads 153 = .ok (.putfield 170, 3) := by decide +kernel
theorem dX9_reads_156 : decode cX9_reads 156 = .ok (.goto (-61), 3) := by decide +kernel
theorem dX9_reads_159 : decode cX9_reads 159 = .ok (.aload_n 0, 1) := by decide +kernel
theorem dX9_reads_160 : decode cX9_reads 160 = .ok (.getfield 182, 3) := by decide +kernel
theorem dX9_reads_163 : decode cX9_reads 163 = .ok (.iconst 1, 1) := by decide +kernel
theorem dX9_reads_164 : decode cX9_reads 164 = .ok (.if_icmp .ne 11, 3) := by decide +kernel
theorem dX9_reads_167 : decode cX9_reads 167 = .ok (.iload_n 1, 1) := by decide +kernel
theorem dX9_reads_168 : decode cX9_reads 168 = .ok (.aload_n 0, 1) := by decide +kernel
theorem dX9_reads_169 : decode cX9_reads 169 = .ok (.getfield 170, 3) := by decide +kernel
theorem dX9_reads_172 : decode cX9_reads 172 = .ok (.if_icmp .eq 11, 3) := by decide +kernel
theorem dX9_reads_175 : decode cX9_reads 175 = .ok (.aload_n 0, 1) := by decide +kernel
theorem dX9_reads_176 : decode cX9_reads 176 = .ok (.getfield 170, 3) := by decide +kernel
theorem dX9_reads_179 : decode cX9_reads 179 = .ok (.iload_n 1, 1) := by decide +kernel
theorem dX9_reads_180 : decode cX9_reads 180 = .ok (.if_icmp .le 7, 3) := by decide +kernel
theorem dX9_reads_183 : decode cX9_reads 183 = .ok (.iconst 1, 1) := by decide +kernel
theorem dX9_reads_184 : decode cX9_reads 184 = .ok (.goto 4, 3) := by decide +kernel
theorem dX9_reads_187 : decode cX9_reads 187 = .ok (.iconst 0, 1) := by decide +kernel
theorem dX9_reads_188 : decode cX9_reads 188 = .ok (.istore_n 2, 1) := by decide +kernel
theorem dX9_reads_189 : decode cX9_reads 189 = .ok (.aload_n 0, 1) := by decide +kernel
theorem dX9_reads_190 : decode cX9_reads 190 = .ok (.invokevirtual 173, 3) := by decide +kernel
theorem dX9_reads_193 : decode cX9_reads 193 = .ok (.bipush 59, 2) := by decide +kernel
theorem dX9_reads_195 : decode cX9_reads 195 = .ok (.if_icmp .ne 7, 3) := by decide +kernel
theorem dX9_reads_198 : decode cX9_reads 198 = .ok (.iload_n 2, 1) := by decide +kernel
theorem dX9_reads_199 : decode cX9_reads 199 = .ok (.ifCond .ne 13, 3) := by decide +kernel
theorem dX9_reads_202 : decode cX9_reads 202 = .ok (.aload_n 0, 1) := by decide +kernel
theorem dX9_reads_203 : decode cX9_reads 203 = .ok (.aload_n 0, 1) := by decide +kernel
theorem dX9_reads_204 : decode cX9_reads 204 = .ok (.getfield 170, 3) := by decide +kernel
theorem dX9_reads_207 : decode cX9_reads 207 = .ok (.putfield 179, 3) := by decide +kernel
theorem dX9_reads_210 : decode cX9_reads 210 = .ok (.iconst 0, 1) := by decide +kernel
theorem dX9_reads_211 : decode cX9_reads 211 = .ok (.ireturn, 1) := by decide +kernel
theorem dX9_reads_212 : decode cX9_reads 212 = .ok (.aload_n 0, 1) := by decide +kernel
theorem dX9_reads_213 : decode cX9_reads 213 = .ok (.getfield 182, 3) := by decide +kernel
theorem dX9_reads_216 : decode cX9_reads 216 = .ok (.i2l, 1) := by decide +kernel
theorem dX9_reads_217 : decode cX9_reads 217 = .ok (.lconst 1, 1) := by decide +kernel
theorem dX9_reads_218 : decode cX9_reads 218 = .ok (.ldc2_w 189, 3) := by decide +kernel
theorem dX9_reads_221 : decode cX9_reads 221 = .ok (.invokestatic 33, 3) := by decide +kernel
theorem dX9_reads_224 : decode cX9_reads 224 = .ok (.ifCond .ne 10, 3) := by decide +kernel
theorem dX9_reads_227 : decode cX9_reads 227 = .ok (.aload_n 0, 1) := by decide +kernel
theorem dX9_reads_228 : decode cX9_reads 228 = .ok (.iload_n 1, 1) := by decide +kernel
theorem dX9_reads_229 : decode cX9_reads 229 = .ok (.putfield 179, 3) := by decide +kernel
theorem dX9_reads_232 : decode cX9_reads 232 = .ok (.iconst 0, 1) := by decide +kernel
theorem dX9_reads_233 : decode cX9_reads 233 = .ok (.ireturn, 1) := by decide +kernel
theorem dX9_reads_234 : decode cX9_reads 234 = .ok (.aload_n 0, 1) := by decide +kernel
theorem dX9_reads_235 : decode cX9_reads 235 = .ok (.dup, 1) := by decide +kernel
theorem dX9_reads_236 : decode cX9_reads 236 = .ok (.getfield 170, 3) := by decide +kernel
theorem dX9_reads_239 : decode cX9_reads 239 = .ok (.iconst 1, 1) := by decide +kernel
theorem dX9_reads_240 : decode cX9_reads 240 = .ok (.iadd, 1) := by decide +kernel
theorem dX9_reads_241 : decode cX9_reads 241 = .ok (.putfield 170, 3) := by decide +kernel
theorem dX9_reads_244 : decode cX9_reads 244 = .ok (.iconst 1, 1) := by decide +kernel
theorem dX9_reads_245 : decode cX9_reads 245 = .ok (.ireturn, 1) := by decide +kernel
set_option maxRecDepth 20000 in
theorem ggX9_wrong_X9_reads : GoodIn wsX9_wrong wsX9_reads := goodIn_r _ [9, 10, 1, 3, 11, 12, 13, 14, 15, 16, 17, 18, 8, 19, 2, 20, 21, 22, 23, 24, 25, 26, 27, 28, 29, 30, 31, 32, 33, 34, 35, 36, 37, 38] (by decide +kernel) (by decide +kernel)
set_option maxRecDepth 20000 in
theorem gX9_wrong_X9_reads : GoodIn wsX9_wrong (wsV RX9 191 RX9 yX9_reads wsX9_reads) := goodIn_app (goodIn_of _ (by decide +kernel)) ggX9_wrong_X9_reads
theorem dX9_wrong_0 : decode cX9_wrong 0 = .ok (.aload_n 0, 1) := by decide +kernel
theorem dX9_wrong_1 : decode cX9_wrong 1 = .ok (.iconst 0, 1) := by decide +kernel
theorem dX9_wrong_2 : decode cX9_wrong 2 = .ok (.putfield 170, 3) := by decide +kernel
theorem dX9_wrong_5 : decode cX9_wrong 5 = .ok (.aload_n 0, 1) := by decide +kernel
theorem dX9_wrong_6 : decode cX9_wrong 6 = .ok (.getfield 170, 3) := by decide +kernel
theorem dX9_wrong_9 : decode cX9_wrong 9 = .ok (.aload_n 0, 1) := by decide +kernel
theorem dX9_wrong_10 : decode cX9_wrong 10 = .ok (.getfield 145, 3) := by decide +kernel
theorem dX9_wrong_13 : decode cX9_wrong 13 = .ok (.if_icmp .ge 15, 3) := by decide +kernel
theorem dX9_wrong_16 : decode cX9_wrong 16 = .ok (.aload_n 0, 1) := by decide +kernel
theorem dX9_wrong_17 : decode cX9_wrong 17 = .ok (.invokevirtual 191, 3) := by decide +kernel
theorem dX9_wrong_20 : decode cX9_wrong 20 = .ok (.ifCond .ne (-15), 3) := by decide +kernel
theorem dX9_wrong_23 : decode cX9_wrong 23 = .ok (.aload_n 0, 1) := by decide +kernel
theorem dX9_wrong_24 : decode cX9_wrong 24 = .ok (.getfield 179, 3) := by decide +kernel
theorem dX9_wrong_27 : decode cX9_wrong 27 = .ok (.ireturn, 1) := by decide +kernel
theorem dX9_wrong_28 : decode cX9_wrong 28 = .ok (.ldc 154, 2) := by decide +kernel
theorem dX9_wrong_30 : decode cX9_wrong 30 = .ok (.ireturn, 1) := by decide +kernel
set_option maxRecDepth 20000 in
theorem ggX9_playing_X9_wrong : GoodIn wsX9_playing wsX9_wrong := goodIn_r _ [10, 3, 4, 11, 1, 12, 13, 14, 9, 15, 16, 5, 17, 18, 19, 20, 21, 22, 23, 24, 25, 26, 27, 28, 29, 30, 31, 32, 33, 34, 35, 36, 37, 38, 39, 40, 41, 42, 43] (by decide +kernel) (by decide +kernel)
set_option maxRecDepth 20000 in
theorem gX9_playing_X9_wrong : GoodIn wsX9_playing (wsV RX9 195 RX9 yX9_wrong wsX9_wrong) := goodIn_app (goodIn_of _ (by decide +kernel)) ggX9_playing_X9_wrong
set_option maxRecDepth 20000 in
theorem ggX9_playing_X9_reads : GoodIn wsX9_playing wsX9_reads := goodIn_r _ [15, 16, 3, 11, 5, 17, 18, 19, 20, 21, 22, 23, 9, 24, 4, 25, 26, 27, 28, 29, 30, 31, 32, 33, 34, 35, 36, 37, 38, 39, 40, 41, 42, 43] (by decide +kernel) (by decide +kernel)
set_option maxRecDepth 20000 in
theorem gX9_playing_X9_reads : GoodIn wsX9_playing (wsV RX9 191 RX9 yX9_reads wsX9_reads) := goodIn_app (goodIn_of _ (by decide +kernel)) ggX9_playing_X9_reads
theorem dX9_playing_0 : decode cX9_playing 0 = .ok (.aload_n 0, 1) := by decide +kernel
theorem dX9_playing_1 : decode cX9_playing 1 = .ok (.invokevirtual 195, 3) := by decide +kernel
theorem dX9_playing_4 : decode cX9_playing 4 = .ok (.ldc 154, 2) := by decide +kernel
theorem dX9_playing_6 : decode cX9_playing 6 = .ok (.if_icmp .eq 6, 3) := by decide +kernel
theorem dX9_playing_9 : decode cX9_playing 9 = .ok (.ldc 140, 2) := by decide +kernel
theorem dX9_playing_11 : decode cX9_playing 11 = .ok (.ireturn, 1) := by decide +kernel
theorem dX9_playing_12 : decode cX9_playing 12 = .ok (.iconst 0, 1) := by decide +kernel
theorem dX9_playing_13 : decode cX9_playing 13 = .ok (.istore_n 1, 1) := by decide +kernel
theorem dX9_playing_14 : decode cX9_playing 14 = .ok (.aload_n 0, 1) := by decide +kernel
theorem dX9_playing_15 : decode cX9_playing 15 = .ok (.iconst 0, 1) := by decide +kernel
theorem dX9_playing_16 : decode cX9_playing 16 = .ok (.putfield 170, 3) := by decide +kernel
theorem dX9_playing_19 : decode cX9_playing 19 = .ok (.aload_n 0, 1) := by decide +kernel
theorem dX9_playing_20 : decode cX9_playing 20 = .ok (.getfield 170, 3) := by decide +kernel
theorem dX9_playing_23 : decode cX9_playing 23 = .ok (.aload_n 0, 1) := by decide +kernel
theorem dX9_playing_24 : decode cX9_playing 24 = .ok (.getfield 145, 3) := by decide +kernel
theorem dX9_playing_27 : decode cX9_playing 27 = .ok (.if_icmp .ge 18, 3) := by decide +kernel
theorem dX9_playing_30 : decode cX9_playing 30 = .ok (.aload_n 0, 1) := by decide +kernel
theorem dX9_playing_31 : decode cX9_playing 31 = .ok (.invokevirtual 191, 3) := by decide +kernel
theorem dX9_playing_34 : decode cX9_playing 34 = .ok (.pop, 1) := by decide +kernel
theorem dX9_playing_35 : decode cX9_playing 35 = .ok (.iload_n 1, 1) := by decide +kernel
theorem dX9_playing_36 : decode cX9_playing 36 = .ok (.aload_n 0, 1) := by decide +kernel
theorem dX9_playing_37 : decode cX9_playing 37 = .ok (.getfield 182, 3) := by decide +kernel
theorem dX9_playing_40 : decode cX9_playing 40 = .ok (.iadd, 1) := by decide +kernel
theorem dX9_playing_41 : decode cX9_playing 41 = .ok (.istore_n 1, 1) := by decide +kernel
theorem dX9_playing_42 : decode cX9_playing 42 = .ok (.goto (-23), 3) := by decide +kernel
theorem dX9_playing_45 : decode cX9_playing 45 = .ok (.iload_n 1, 1) := by decide +kernel
theorem dX9_playing_46 : decode cX9_playing 46 = .ok (.ireturn, 1) := by decide +kernel
set_option maxRecDepth 20000 in
theorem ggX9_play_X9_playing : GoodIn wsX9_play wsX9_playing := goodIn_r _ [13, 14, 1, 5, 6, 8, 15, 16, 17, 12, 18, 19, 20, 21, 22, 23, 7, 24, 25, 26, 27, 28, 29, 30, 31, 32, 33, 34, 35, 36, 37, 107, 108, 109, 110, 111, 112, 113, 114, 115, 116, 117, 118, 119] (by decide +kernel) (by decide +kernel)
set_option maxRecDepth 20000 in
theorem gX9_play_X9_playing : GoodIn wsX9_play (wsV RX9 198 RX9 yX9_playing wsX9_playing) := goodIn_app (goodIn_of _ (by decide +kernel)) ggX9_play_X9_playing
set_option maxRecDepth 20000 in
theorem ggX9_play_X9_records : GoodIn wsX9_play wsX9_records := goodIn_r _ [41, 42, 43, 44, 2, 45, 107, 108, 109, 110, 111, 112, 113, 114, 115, 116, 117, 118, 119] (by decide +kernel) (by decide +kernel)
set_option maxRecDepth 20000 in
theorem gX9_play_X9_records : GoodIn wsX9_play (wsV RX9 113 RX9 yX9_records wsX9_records) := goodIn_app (goodIn_of _ (by decide +kernel)) ggX9_play_X9_records
set_option maxRecDepth 20000 in
theorem ggX9_play_X9_reads : GoodIn wsX9_play wsX9_reads := goodIn_r _ [23, 7, 5, 19, 8, 24, 25, 26, 27, 28, 29, 30, 12, 31, 6, 32, 33, 34, 35, 36, 37, 107, 108, 109, 110, 111, 112, 113, 114, 115, 116, 117, 118, 119] (by decide +kernel) (by decide +kernel)
set_option maxRecDepth 20000 in
theorem gX9_play_X9_reads : GoodIn wsX9_play (wsV RX9 191 RX9 yX9_reads wsX9_reads) := goodIn_app (goodIn_of _ (by decide +kernel)) ggX9_play_X9_reads
set_option maxRecDepth 20000 in
theorem ggX9_play_X9_legAt : GoodIn wsX9_play wsX9_legAt := goodIn_r _ [48] (by decide +kernel) (by decide +kernel)
set_option maxRecDepth 20000 in
theorem gX9_play_X9_legAt : GoodIn wsX9_play (va_wsS RX9 56 yX9_legAt wsX9_legAt) := goodIn_app (goodIn_of _ (by decide +kernel)) ggX9_play_X9_legAt
set_option maxRecDepth 20000 in
theorem ggX9_play_X9_goes : GoodIn wsX9_play wsX9_goes := goodIn_r _ [52, 2, 45, 53, 54, 55, 12, 56, 57, 58, 59, 60, 61, 62, 63, 64, 65, 66, 67, 46, 47, 48, 68, 69, 70, 71, 72, 73, 74, 75, 76, 77, 78, 79, 80, 81, 82, 83, 84, 85, 86, 87, 88, 89, 90, 91, 92, 93, 94, 95, 96, 97, 98, 99, 100, 101, 102, 103, 104, 105, 106, 107, 108, 109, 110, 111, 112, 113, 114, 115, 116, 117, 118, 119] (by decide +kernel) (by decide +kernel)
set_option maxRecDepth 20000 in
theorem gX9_play_X9_goes : GoodIn wsX9_play (wsV RX9 130 RX9 yX9_goes wsX9_goes) := goodIn_app (goodIn_of _ (by decide +kernel)) ggX9_play_X9_goes
theorem dX9_play_0 : decode cX9_play 0 = .ok (.aload_n 0, 1) := by decide +kernel
theorem dX9_play_1 : decode cX9_play 1 = .ok (.invokevirtual 198, 3) := by decide +kernel
theorem dX9_play_4 : decode cX9_play 4 = .ok (.istore_n 1, 1) := by decide +kernel
theorem dX9_play_5 : decode cX9_play 5 = .ok (.iload_n 1, 1) := by decide +kernel
theorem dX9_play_6 : decode cX9_play 6 = .ok (.ifCond .ge 6, 3) := by decide +kernel
theorem dX9_play_9 : decode cX9_play 9 = .ok (.ldc 140, 2) := by decide +kernel
theorem dX9_play_11 : decode cX9_play 11 = .ok (.ireturn, 1) := by decide +kernel
theorem dX9_play_12 : decode cX9_play 12 = .ok (.aload_n 0, 1) := by decide +kernel
theorem dX9_play_13 : decode cX9_play 13 = .ok (.getfield 7, 3) := by decide +kernel
theorem dX9_play_16 : decode cX9_play 16 = .ok (.iconst 0, 1) := by decide +kernel
theorem dX9_play_17 : decode cX9_play 17 = .ok (.iaload, 1) := by decide +kernel
theorem dX9_play_18 : decode cX9_play 18 = .ok (.iload_n 1, 1) := by decide +kernel
theorem dX9_play_19 : decode cX9_play 19 = .ok (.iadd, 1) := by decide +kernel
theorem dX9_play_20 : decode cX9_play 20 = .ok (.ldc 128, 2) := by decide +kernel
theorem dX9_play_22 : decode cX9_play 22 = .ok (.if_icmp .le 6, 3) := by decide +kernel
theorem dX9_play_25 : decode cX9_play 25 = .ok (.ldc 129, 2) := by decide +kernel
theorem dX9_play_27 : decode cX9_play 27 = .ok (.ireturn, 1) := by decide +kernel
theorem dX9_play_28 : decode cX9_play 28 = .ok (.aload_n 0, 1) := by decide +kernel
theorem dX9_play_29 : decode cX9_play 29 = .ok (.invokevirtual 113, 3) := by decide +kernel
theorem dX9_play_32 : decode cX9_play 32 = .ok (.aload_n 0, 1) := by decide +kernel
theorem dX9_play_33 : decode cX9_play 33 = .ok (.iconst 0, 1) := by decide +kernel
theorem dX9_play_34 : decode cX9_play 34 = .ok (.putfield 170, 3) := by decide +kernel
theorem dX9_play_37 : decode cX9_play 37 = .ok (.aload_n 0, 1) := by decide +kernel
theorem dX9_play_38 : decode cX9_play 38 = .ok (.getfield 170, 3) := by decide +kernel
theorem dX9_play_41 : decode cX9_play 41 = .ok (.aload_n 0, 1) := by decide +kernel
theorem dX9_play_42 : decode cX9_play 42 = .ok (.getfield 145, 3) := by decide +kernel
theorem dX9_play_45 : decode cX9_play 45 = .ok (.if_icmp .ge 86, 3) := by decide +kernel
theorem dX9_play_48 : decode cX9_play 48 = .ok (.aload_n 0, 1) := by decide +kernel
theorem dX9_play_49 : decode cX9_play 49 = .ok (.invokevirtual 191, 3) := by decide +kernel
theorem dX9_play_52 : decode cX9_play 52 = .ok (.pop, 1) := by decide +kernel
theorem dX9_play_53 : decode cX9_play 53 = .ok (.iconst 0, 1) := by decide +kernel
theorem dX9_play_54 : decode cX9_play 54 = .ok (.istore_n 2, 1) := by decide +kernel
theorem dX9_play_55 : decode cX9_play 55 = .ok (.iload_n 2, 1) := by decide +kernel
theorem dX9_play_56 : decode cX9_play 56 = .ok (.iconst 4, 1) := by decide +kernel
theorem dX9_play_57 : decode cX9_play 57 = .ok (.if_icmp .ge 50, 3) := by decide +kernel
theorem dX9_play_60 : decode cX9_play 60 = .ok (.aload_n 0, 1) := by decide +kernel
theorem dX9_play_61 : decode cX9_play 61 = .ok (.getfield 7, 3) := by decide +kernel
theorem dX9_play_64 : decode cX9_play 64 = .ok (.iload_n 2, 1) := by decide +kernel
theorem dX9_play_65 : decode cX9_play 65 = .ok (.invokestatic 56, 3) := by decide +kernel
theorem dX9_play_68 : decode cX9_play 68 = .ok (.iconst 0, 1) := by decide +kernel
theorem dX9_play_69 : decode cX9_play 69 = .ok (.iadd, 1) := by decide +kernel
theorem dX9_play_70 : decode cX9_play 70 = .ok (.aload_n 0, 1) := by decide +kernel
theorem dX9_play_71 : decode cX9_play 71 = .ok (.getfield 27, 3) := by decide +kernel
theorem dX9_play_74 : decode cX9_play 74 = .ok (.iload_n 2, 1) := by decide +kernel
theorem dX9_play_75 : decode cX9_play 75 = .ok (.iaload, 1) := by decide +kernel
theorem dX9_play_76 : decode cX9_play 76 = .ok (.iconst 3, 1) := by decide +kernel
theorem dX9_play_77 : decode cX9_play 77 = .ok (.if_icmp .ne 17, 3) := by decide +kernel
theorem dX9_play_80 : decode cX9_play 80 = .ok (.aload_n 0, 1) := by decide +kernel
theorem dX9_play_81 : decode cX9_play 81 = .ok (.getfield 7, 3) := by decide +kernel
theorem dX9_play_84 : decode cX9_play 84 = .ok (.iload_n 2, 1) := by decide +kernel
theorem dX9_play_85 : decode cX9_play 85 = .ok (.invokestatic 56, 3) := by decide +kernel
theorem dX9_play_88 : decode cX9_play 88 = .ok (.iconst 0, 1) := by decide +kernel
theorem dX9_play_89 : decode cX9_play 89 = .ok (.iadd, 1) := by decide +kernel
theorem dX9_play_90 : decode cX9_play 90 = .ok (.iaload, 1) := by decide +kernel
theorem dX9_play_91 : decode cX9_play 91 = .ok (.goto 9, 3) := by decide +kernel
theorem dX9_play_94 : decode cX9_play 94 = .ok (.aload_n 0, 1) := by decide +kernel
theorem dX9_play_95 : decode cX9_play 95 = .ok (.getfield 27, 3) := by decide +kernel
theorem dX9_play_98 : decode cX9_play 98 = .ok (.iload_n 2, 1) := by decide +kernel
theorem dX9_play_99 : decode cX9_play 99 = .ok (.iaload, 1) := by decide +kernel
theorem dX9_play_100 : decode cX9_play 100 = .ok (.iastore, 1) := by decide +kernel
theorem dX9_play_101 : decode cX9_play 101 = .ok (.iinc 2 1, 3) := by decide +kernel
theorem dX9_play_104 : decode cX9_play 104 = .ok (.goto (-49), 3) := by decide +kernel
theorem dX9_play_107 : decode cX9_play 107 = .ok (.iconst 0, 1) := by decide +kernel
theorem dX9_play_108 : decode cX9_play 108 = .ok (.istore_n 2, 1) := by decide +kernel
theorem dX9_play_109 : decode cX9_play 109 = .ok (.iload_n 2, 1) := by decide +kernel
theorem dX9_play_110 : decode cX9_play 110 = .ok (.aload_n 0, 1) := by decide +kernel
theorem dX9_play_111 : decode cX9_play 111 = .ok (.getfield 182, 3) := by decide +kernel
theorem dX9_play_114 : decode cX9_play 114 = .ok (.if_icmp .ge 14, 3) := by decide +kernel
theorem dX9_play_117 : decode cX9_play 117 = .ok (.aload_n 0, 1) := by decide +kernel
theorem dX9_play_118 : decode cX9_play 118 = .ok (.invokevirtual 130, 3) := by decide +kernel
theorem dX9_play_121 : decode cX9_play 121 = .ok (.pop, 1) := by decide +kernel
theorem dX9_play_122 : decode cX9_play 122 = .ok (.iinc 2 1, 3) := by decide +kernel
theorem dX9_play_125 : decode cX9_play 125 = .ok (.goto (-16), 3) := by decide +kernel
theorem dX9_play_128 : decode cX9_play 128 = .ok (.goto (-91), 3) := by decide +kernel
theorem dX9_play_131 : decode cX9_play 131 = .ok (.iload_n 1, 1) := by decide +kernel
theorem dX9_play_132 : decode cX9_play 132 = .ok (.ireturn, 1) := by decide +kernel

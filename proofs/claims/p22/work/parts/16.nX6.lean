theorem dX6_init_0 : decode cX6_init 0 = .ok (.aload_n 0, 1) := by decide +kernel
theorem dX6_init_1 : decode cX6_init 1 = .ok (.invokespecial 3, 3) := by decide +kernel
theorem dX6_init_4 : decode cX6_init 4 = .ok (.aload_n 0, 1) := by decide +kernel
theorem dX6_init_5 : decode cX6_init 5 = .ok (.bipush 32, 2) := by decide +kernel
theorem dX6_init_7 : decode cX6_init 7 = .ok (.newarray .int, 2) := by decide +kernel
theorem dX6_init_9 : decode cX6_init 9 = .ok (.putfield 9, 3) := by decide +kernel
theorem dX6_init_12 : decode cX6_init 12 = .ok (.aload_n 0, 1) := by decide +kernel
theorem dX6_init_13 : decode cX6_init 13 = .ok (.bipush 32, 2) := by decide +kernel
theorem dX6_init_15 : decode cX6_init 15 = .ok (.newarray .int, 2) := by decide +kernel
theorem dX6_init_17 : decode cX6_init 17 = .ok (.putfield 15, 3) := by decide +kernel
theorem dX6_init_20 : decode cX6_init 20 = .ok (.aload_n 0, 1) := by decide +kernel
theorem dX6_init_21 : decode cX6_init 21 = .ok (.bipush 32, 2) := by decide +kernel
theorem dX6_init_23 : decode cX6_init 23 = .ok (.newarray .int, 2) := by decide +kernel
theorem dX6_init_25 : decode cX6_init 25 = .ok (.putfield 18, 3) := by decide +kernel
theorem dX6_init_28 : decode cX6_init 28 = .ok (.aload_n 0, 1) := by decide +kernel
theorem dX6_init_29 : decode cX6_init 29 = .ok (.bipush 32, 2) := by decide +kernel
theorem dX6_init_31 : decode cX6_init 31 = .ok (.newarray .int, 2) := by decide +kernel
theorem dX6_init_33 : decode cX6_init 33 = .ok (.putfield 21, 3) := by decide +kernel
theorem dX6_init_36 : decode cX6_init 36 = .ok (.return_, 1) := by decide +kernel
theorem dX6_copyFrom_0 : decode cX6_copyFrom 0 = .ok (.aload_n 1, 1) := by decide +kernel
theorem dX6_copyFrom_1 : decode cX6_copyFrom 1 = .ok (.getfield 9, 3) := by decide +kernel
theorem dX6_copyFrom_4 : decode cX6_copyFrom 4 = .ok (.iconst 0, 1) := by decide +kernel
theorem dX6_copyFrom_5 : decode cX6_copyFrom 5 = .ok (.aload_n 0, 1) := by decide +kernel
theorem dX6_copyFrom_6 : decode cX6_copyFrom 6 = .ok (.getfield 9, 3) := by decide +kernel
theorem dX6_copyFrom_9 : decode cX6_copyFrom 9 = .ok (.iconst 0, 1) := by decide +kernel
theorem dX6_copyFrom_10 : decode cX6_copyFrom 10 = .ok (.bipush 32, 2) := by decide +kernel
theorem dX6_copyFrom_12 : decode cX6_copyFrom 12 = .ok (.invokestatic 24, 3) := by decide +kernel
theorem dX6_copyFrom_15 : decode cX6_copyFrom 15 = .ok (.aload_n 1, 1) := by decide +kernel
theorem dX6_copyFrom_16 : decode cX6_copyFrom 16 = .ok (.getfield 15, 3) := by decide +kernel
theorem dX6_copyFrom_19 : decode cX6_copyFrom 19 = .ok (.iconst 0, 1) := by decide +kernel
theorem dX6_copyFrom_20 : decode cX6_copyFrom 20 = .ok (.aload_n 0, 1) := by decide +kernel
theorem dX6_copyFrom_21 : decode cX6_copyFrom 21 = .ok (.getfield 15, 3) := by decide +kernel
theorem dX6_copyFrom_24 : decode cX6_copyFrom 24 = .ok (.iconst 0, 1) := by decide +kernel
theorem dX6_copyFrom_25 : decode cX6_copyFrom 25 = .ok (.bipush 32, 2) := by decide +kernel
theorem dX6_copyFrom_27 : decode cX6_copyFrom 27 = .ok (.invokestatic 24, 3) := by decide +kernel
theorem dX6_copyFrom_30 : decode cX6_copyFrom 30 = .ok (.aload_n 1, 1) := by decide +kernel
theorem dX6_copyFrom_31 : decode cX6_copyFrom 31 = .ok (.getfield 18, 3) := by decide +kernel
theorem dX6_copyFrom_34 : decode cX6_copyFrom 34 = .ok (.iconst 0, 1) := by decide +kernel
theorem dX6_copyFrom_35 : decode cX6_copyFrom 35 = .ok (.aload_n 0, 1) := by decide +kernel
theorem dX6_copyFrom_36 : decode cX6_copyFrom 36 = .ok (.getfield 18, 3) := by decide +kernel
theorem dX6_copyFrom_39 : decode cX6_copyFrom 39 = .ok (.iconst 0, 1) := by decide +kernel
theorem dX6_copyFrom_40 : decode cX6_copyFrom 40 = .ok (.bipush 32, 2) := by decide +kernel
theorem dX6_copyFrom_42 : decode cX6_copyFrom 42 = .ok (.invokestatic 24, 3) := by decide +kernel
theorem dX6_copyFrom_45 : decode cX6_copyFrom 45 = .ok (.aload_n 1, 1) := by decide +kernel
theorem dX6_copyFrom_46 : decode cX6_copyFrom 46 = .ok (.getfield 21, 3) := by decide +kernel
theorem dX6_copyFrom_49 : decode cX6_copyFrom 49 = .ok (.iconst 0, 1) := by decide +kernel
theorem dX6_copyFrom_50 : decode cX6_copyFrom 50 = .ok (.aload_n 0, 1) := by decide +kernel
theorem dX6_copyFrom_51 : decode cX6_copyFrom 51 = .ok (.getfield 21, 3) := by decide +kernel
theorem dX6_copyFrom_54 : decode cX6_copyFrom 54 = .ok (.iconst 0, 1) := by decide +kernel
theorem dX6_copyFrom_55 : decode cX6_copyFrom 55 = .ok (.bipush 32, 2) := by decide +kernel
theorem dX6_copyFrom_57 : decode cX6_copyFrom 57 = .ok (.invokestatic 24, 3) := by decide +kernel
theorem dX6_copyFrom_60 : decode cX6_copyFrom 60 = .ok (.return_, 1) := by decide +kernel
set_option maxRecDepth 20000 in
theorem ggX6_keep_J9_floorMod_7cf53 : GoodIn wsX6_keep wsJ9_floorMod_7cf53 := goodIn_r _ [8] (by decide +kernel) (by decide +kernel)
set_option maxRecDepth 20000 in
theorem gX6_keep_J9_floorMod_7cf53 : GoodIn wsX6_keep (va_wsS RX6 30 yJ9_floorMod_7cf53 wsJ9_floorMod_7cf53) := goodIn_app (goodIn_of _ (by decide +kernel)) ggX6_keep_J9_floorMod_7cf53
set_option maxRecDepth 20000 in
theorem ggX6_keep_X8_bit : GoodIn wsX6_keep wsX8_bit := goodIn_r _ [11] (by decide +kernel) (by decide +kernel)
set_option maxRecDepth 20000 in
theorem gX6_keep_X8_bit_n58 : GoodIn wsX6_keep (wsX8_bit) := ggX6_keep_X8_bit
theorem dX6_keep_0 : decode cX6_keep 0 = .ok (.iload_n 1, 1) := by decide +kernel
theorem dX6_keep_1 : decode cX6_keep 1 = .ok (.bipush 32, 2) := by decide +kernel
theorem dX6_keep_3 : decode cX6_keep 3 = .ok (.invokestatic 30, 3) := by decide +kernel
theorem dX6_keep_6 : decode cX6_keep 6 = .ok (.istore 4, 2) := by decide +kernel
theorem dX6_keep_8 : decode cX6_keep 8 = .ok (.aload_n 0, 1) := by decide +kernel
theorem dX6_keep_9 : decode cX6_keep 9 = .ok (.getfield 9, 3) := by decide +kernel
theorem dX6_keep_12 : decode cX6_keep 12 = .ok (.iload 4, 2) := by decide +kernel
theorem dX6_keep_14 : decode cX6_keep 14 = .ok (.aload_n 2, 1) := by decide +kernel
theorem dX6_keep_15 : decode cX6_keep 15 = .ok (.getfield 36, 3) := by decide +kernel
theorem dX6_keep_18 : decode cX6_keep 18 = .ok (.iastore, 1) := by decide +kernel
theorem dX6_keep_19 : decode cX6_keep 19 = .ok (.aload_n 0, 1) := by decide +kernel
theorem dX6_keep_20 : decode cX6_keep 20 = .ok (.getfield 15, 3) := by decide +kernel
theorem dX6_keep_23 : decode cX6_keep 23 = .ok (.iload 4, 2) := by decide +kernel
theorem dX6_keep_25 : decode cX6_keep 25 = .ok (.aload_n 3, 1) := by decide +kernel
theorem dX6_keep_26 : decode cX6_keep 26 = .ok (.getfield 36, 3) := by decide +kernel
theorem dX6_keep_29 : decode cX6_keep 29 = .ok (.iastore, 1) := by decide +kernel
theorem dX6_keep_30 : decode cX6_keep 30 = .ok (.aload_n 0, 1) := by decide +kernel
theorem dX6_keep_31 : decode cX6_keep 31 = .ok (.getfield 18, 3) := by decide +kernel
theorem dX6_keep_34 : decode cX6_keep 34 = .ok (.iload 4, 2) := by decide +kernel
theorem dX6_keep_36 : decode cX6_keep 36 = .ok (.aload_n 2, 1) := by decide +kernel
theorem dX6_keep_37 : decode cX6_keep 37 = .ok (.getfield 42, 3) := by decide +kernel
theorem dX6_keep_40 : decode cX6_keep 40 = .ok (.getfield 46, 3) := by decide +kernel
theorem dX6_keep_43 : decode cX6_keep 43 = .ok (.iconst 3, 1) := by decide +kernel
theorem dX6_keep_44 : decode cX6_keep 44 = .ok (.aload_n 2, 1) := by decide +kernel
theorem dX6_keep_45 : decode cX6_keep 45 = .ok (.getfield 51, 3) := by decide +kernel
theorem dX6_keep_48 : decode cX6_keep 48 = .ok (.getfield 46, 3) := by decide +kernel
theorem dX6_keep_51 : decode cX6_keep 51 = .ok (.imul, 1) := by decide +kernel
theorem dX6_keep_52 : decode cX6_keep 52 = .ok (.iadd, 1) := by decide +kernel
theorem dX6_keep_53 : decode cX6_keep 53 = .ok (.bipush 9, 2) := by decide +kernel
theorem dX6_keep_55 : decode cX6_keep 55 = .ok (.aload_n 3, 1) := by decide +kernel
theorem dX6_keep_56 : decode cX6_keep 56 = .ok (.getfield 42, 3) := by decide +kernel
theorem dX6_keep_59 : decode cX6_keep 59 = .ok (.getfield 46, 3) := by decide +kernel
theorem dX6_keep_62 : decode cX6_keep 62 = .ok (.imul, 1) := by decide +kernel
theorem dX6_keep_63 : decode cX6_keep 63 = .ok (.iadd, 1) := by decide +kernel
theorem dX6_keep_64 : decode cX6_keep 64 = .ok (.bipush 27, 2) := by decide +kernel
theorem dX6_keep_66 : decode cX6_keep 66 = .ok (.aload_n 3, 1) := by decide +kernel
theorem dX6_keep_67 : decode cX6_keep 67 = .ok (.getfield 51, 3) := by decide +kernel
theorem dX6_keep_70 : decode cX6_keep 70 = .ok (.getfield 46, 3) := by decide +kernel
theorem dX6_keep_73 : decode cX6_keep 73 = .ok (.imul, 1) := by decide +kernel
theorem dX6_keep_74 : decode cX6_keep 74 = .ok (.iadd, 1) := by decide +kernel
theorem dX6_keep_75 : decode cX6_keep 75 = .ok (.iastore, 1) := by decide +kernel
theorem dX6_keep_76 : decode cX6_keep 76 = .ok (.aload_n 0, 1) := by decide +kernel
theorem dX6_keep_77 : decode cX6_keep 77 = .ok (.getfield 21, 3) := by decide +kernel
theorem dX6_keep_80 : decode cX6_keep 80 = .ok (.iload 4, 2) := by decide +kernel
theorem dX6_keep_82 : decode cX6_keep 82 = .ok (.aload_n 2, 1) := by decide +kernel
theorem dX6_keep_83 : decode cX6_keep 83 = .ok (.getfield 54, 3) := by decide +kernel
theorem dX6_keep_86 : decode cX6_keep 86 = .ok (.invokestatic 58, 3) := by decide +kernel
theorem dX6_keep_89 : decode cX6_keep 89 = .ok (.iconst 2, 1) := by decide +kernel
theorem dX6_keep_90 : decode cX6_keep 90 = .ok (.aload_n 3, 1) := by decide +kernel
theorem dX6_keep_91 : decode cX6_keep 91 = .ok (.getfield 54, 3) := by decide +kernel
theorem dX6_keep_94 : decode cX6_keep 94 = .ok (.invokestatic 58, 3) := by decide +kernel
theorem dX6_keep_97 : decode cX6_keep 97 = .ok (.imul, 1) := by decide +kernel
theorem dX6_keep_98 : decode cX6_keep 98 = .ok (.iadd, 1) := by decide +kernel
theorem dX6_keep_99 : decode cX6_keep 99 = .ok (.iastore, 1) := by decide +kernel
theorem dX6_keep_100 : decode cX6_keep 100 = .ok (.return_, 1) := by decide +kernel
set_option maxRecDepth 20000 in
theorem ggX6_value_J9_floorMod_7cf53 : GoodIn wsX6_value wsJ9_floorMod_7cf53 := goodIn_r _ [8] (by decide +kernel) (by decide +kernel)
set_option maxRecDepth 20000 in
theorem gX6_value_J9_floorMod_7cf53 : GoodIn wsX6_value (va_wsS RX6 30 yJ9_floorMod_7cf53 wsJ9_floorMod_7cf53) := goodIn_app (goodIn_of _ (by decide +kernel)) ggX6_value_J9_floorMod_7cf53
theorem dX6_value_0 : decode cX6_value 0 = .ok (.iload_n 1, 1) := by decide +kernel
theorem dX6_value_1 : decode cX6_value 1 = .ok (.bipush 32, 2) := by decide +kernel
theorem dX6_value_3 : decode cX6_value 3 = .ok (.invokestatic 30, 3) := by decide +kernel
theorem dX6_value_6 : decode cX6_value 6 = .ok (.istore_n 3, 1) := by decide +kernel
theorem dX6_value_7 : decode cX6_value 7 = .ok (.iload_n 2, 1) := by decide +kernel
theorem dX6_value_8 : decode cX6_value 8 = .ok (.tableswitch 49 1 3 #[28, 35, 42], 28) := by decide +kernel
theorem dX6_value_36 : decode cX6_value 36 = .ok (.aload_n 0, 1) := by decide +kernel
theorem dX6_value_37 : decode cX6_value 37 = .ok (.getfield 9, 3) := by decide +kernel
theorem dX6_value_40 : decode cX6_value 40 = .ok (.iload_n 3, 1) := by decide +kernel
theorem dX6_value_41 : decode cX6_value 41 = .ok (.iaload, 1) := by decide +kernel
theorem dX6_value_42 : decode cX6_value 42 = .ok (.ireturn, 1) := by decide +kernel
theorem dX6_value_43 : decode cX6_value 43 = .ok (.aload_n 0, 1) := by decide +kernel
theorem dX6_value_44 : decode cX6_value 44 = .ok (.getfield 15, 3) := by decide +kernel
theorem dX6_value_47 : decode cX6_value 47 = .ok (.iload_n 3, 1) := by decide +kernel
theorem dX6_value_48 : decode cX6_value 48 = .ok (.iaload, 1) := by decide +kernel
theorem dX6_value_49 : decode cX6_value 49 = .ok (.ireturn, 1) := by decide +kernel
theorem dX6_value_50 : decode cX6_value 50 = .ok (.aload_n 0, 1) := by decide +kernel
theorem dX6_value_51 : decode cX6_value 51 = .ok (.getfield 18, 3) := by decide +kernel
theorem dX6_value_54 : decode cX6_value 54 = .ok (.iload_n 3, 1) := by decide +kernel
theorem dX6_value_55 : decode cX6_value 55 = .ok (.iaload, 1) := by decide +kernel
theorem dX6_value_56 : decode cX6_value 56 = .ok (.ireturn, 1) := by decide +kernel
theorem dX6_value_57 : decode cX6_value 57 = .ok (.aload_n 0, 1) := by decide +kernel
theorem dX6_value_58 : decode cX6_value 58 = .ok (.getfield 21, 3) := by decide +kernel
theorem dX6_value_61 : decode cX6_value 61 = .ok (.iload_n 3, 1) := by decide +kernel
theorem dX6_value_62 : decode cX6_value 62 = .ok (.iaload, 1) := by decide +kernel
theorem dX6_value_63 : decode cX6_value 63 = .ok (.ireturn, 1) := by decide +kernel

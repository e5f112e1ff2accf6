theorem dX3_init_0 : decode cX3_init 0 = .ok (.aload_n 0, 1) := by decide +kernel
theorem dX3_init_1 : decode cX3_init 1 = .ok (.invokespecial 3, 3) := by decide +kernel
theorem dX3_init_4 : decode cX3_init 4 = .ok (.aload_n 0, 1) := by decide +kernel
theorem dX3_init_5 : decode cX3_init 5 = .ok (.iconst 3, 1) := by decide +kernel
theorem dX3_init_6 : decode cX3_init 6 = .ok (.newarray .boolean, 2) := by decide +kernel
theorem dX3_init_8 : decode cX3_init 8 = .ok (.putfield 9, 3) := by decide +kernel
theorem dX3_init_11 : decode cX3_init 11 = .ok (.aload_n 0, 1) := by decide +kernel
theorem dX3_init_12 : decode cX3_init 12 = .ok (.iconst 3, 1) := by decide +kernel
theorem dX3_init_13 : decode cX3_init 13 = .ok (.newarray .int, 2) := by decide +kernel
theorem dX3_init_15 : decode cX3_init 15 = .ok (.putfield 15, 3) := by decide +kernel
theorem dX3_init_18 : decode cX3_init 18 = .ok (.aload_n 0, 1) := by decide +kernel
theorem dX3_init_19 : decode cX3_init 19 = .ok (.iconst 3, 1) := by decide +kernel
theorem dX3_init_20 : decode cX3_init 20 = .ok (.newarray .int, 2) := by decide +kernel
theorem dX3_init_22 : decode cX3_init 22 = .ok (.putfield 19, 3) := by decide +kernel
theorem dX3_init_25 : decode cX3_init 25 = .ok (.return_, 1) := by decide +kernel
theorem dX3_copyFrom_0 : decode cX3_copyFrom 0 = .ok (.iconst 0, 1) := by decide +kernel
theorem dX3_copyFrom_1 : decode cX3_copyFrom 1 = .ok (.istore_n 2, 1) := by decide +kernel
theorem dX3_copyFrom_2 : decode cX3_copyFrom 2 = .ok (.iload_n 2, 1) := by decide +kernel
theorem dX3_copyFrom_3 : decode cX3_copyFrom 3 = .ok (.iconst 3, 1) := by decide +kernel
theorem dX3_copyFrom_4 : decode cX3_copyFrom 4 = .ok (.if_icmp .ge 45, 3) := by decide +kernel
theorem dX3_copyFrom_7 : decode cX3_copyFrom 7 = .ok (.aload_n 0, 1) := by decide +kernel
theorem dX3_copyFrom_8 : decode cX3_copyFrom 8 = .ok (.getfield 9, 3) := by decide +kernel
theorem dX3_copyFrom_11 : decode cX3_copyFrom 11 = .ok (.iload_n 2, 1) := by decide +kernel
theorem dX3_copyFrom_12 : decode cX3_copyFrom 12 = .ok (.aload_n 1, 1) := by decide +kernel
theorem dX3_copyFrom_13 : decode cX3_copyFrom 13 = .ok (.getfield 9, 3) := by decide +kernel
theorem dX3_copyFrom_16 : decode cX3_copyFrom 16 = .ok (.iload_n 2, 1) := by decide +kernel
theorem dX3_copyFrom_17 : decode cX3_copyFrom 17 = .ok (.baload, 1) := by decide +kernel
theorem dX3_copyFrom_18 : decode cX3_copyFrom 18 = .ok (.bastore, 1) := by decide +kernel
theorem dX3_copyFrom_19 : decode cX3_copyFrom 19 = .ok (.aload_n 0, 1) := by decide +kernel
theorem dX3_copyFrom_20 : decode cX3_copyFrom 20 = .ok (.getfield 15, 3) := by decide +kernel
theorem dX3_copyFrom_23 : decode cX3_copyFrom 23 = .ok (.iload_n 2, 1) := by decide +kernel
theorem dX3_copyFrom_24 : decode cX3_copyFrom 24 = .ok (.aload_n 1, 1) := by decide +kernel
theorem dX3_copyFrom_25 : decode cX3_copyFrom 25 = .ok (.getfield 15, 3) := by decide +kernel
theorem dX3_copyFrom_28 : decode cX3_copyFrom 28 = .ok (.iload_n 2, 1) := by decide +kernel
theorem dX3_copyFrom_29 : decode cX3_copyFrom 29 = .ok (.iaload, 1) := by decide +kernel
theorem dX3_copyFrom_30 : decode cX3_copyFrom 30 = .ok (.iastore, 1) := by decide +kernel
theorem dX3_copyFrom_31 : decode cX3_copyFrom 31 = .ok (.aload_n 0, 1) := by decide +kernel
theorem dX3_copyFrom_32 : decode cX3_copyFrom 32 = .ok (.getfield 19, 3) := by decide +kernel
theorem dX3_copyFrom_35 : decode cX3_copyFrom 35 = .ok (.iload_n 2, 1) := by decide +kernel
theorem dX3_copyFrom_36 : decode cX3_copyFrom 36 = .ok (.aload_n 1, 1) := by decide +kernel
theorem dX3_copyFrom_37 : decode cX3_copyFrom 37 = .ok (.getfield 19, 3) := by decide +kernel
theorem dX3_copyFrom_40 : decode cX3_copyFrom 40 = .ok (.iload_n 2, 1) := by decide +kernel
theorem dX3_copyFrom_41 : decode cX3_copyFrom 41 = .ok (.iaload, 1) := by decide +kernel
theorem dX3_copyFrom_42 : decode cX3_copyFrom 42 = .ok (.iastore, 1) := by decide +kernel
theorem dX3_copyFrom_43 : decode cX3_copyFrom 43 = .ok (.iinc 2 1, 3) := by decide +kernel
theorem dX3_copyFrom_46 : decode cX3_copyFrom 46 = .ok (.goto (-44), 3) := by decide +kernel
theorem dX3_copyFrom_49 : decode cX3_copyFrom 49 = .ok (.aload_n 0, 1) := by decide +kernel
theorem dX3_copyFrom_50 : decode cX3_copyFrom 50 = .ok (.aload_n 1, 1) := by decide +kernel
theorem dX3_copyFrom_51 : decode cX3_copyFrom 51 = .ok (.getfield 22, 3) := by decide +kernel
theorem dX3_copyFrom_54 : decode cX3_copyFrom 54 = .ok (.putfield 22, 3) := by decide +kernel
theorem dX3_copyFrom_57 : decode cX3_copyFrom 57 = .ok (.return_, 1) := by decide +kernel
set_option maxRecDepth 20000 in
theorem ggX3_isLatched_X8_isFault : GoodIn wsX3_isLatched wsX8_isFault := goodIn_r _ [4, 5, 6, 3, 7] (by decide +kernel) (by decide +kernel)
set_option maxRecDepth 20000 in
theorem gX3_isLatched_X8_isFault_n26 : GoodIn wsX3_isLatched (wsX8_isFault) := ggX3_isLatched_X8_isFault
theorem dX3_isLatched_0 : decode cX3_isLatched 0 = .ok (.iload_n 1, 1) := by decide +kernel
theorem dX3_isLatched_1 : decode cX3_isLatched 1 = .ok (.invokestatic 26, 3) := by decide +kernel
theorem dX3_isLatched_4 : decode cX3_isLatched 4 = .ok (.ifCond .eq 16, 3) := by decide +kernel
theorem dX3_isLatched_7 : decode cX3_isLatched 7 = .ok (.aload_n 0, 1) := by decide +kernel
theorem dX3_isLatched_8 : decode cX3_isLatched 8 = .ok (.getfield 9, 3) := by decide +kernel
theorem dX3_isLatched_11 : decode cX3_isLatched 11 = .ok (.iload_n 1, 1) := by decide +kernel
theorem dX3_isLatched_12 : decode cX3_isLatched 12 = .ok (.baload, 1) := by decide +kernel
theorem dX3_isLatched_13 : decode cX3_isLatched 13 = .ok (.ifCond .eq 7, 3) := by decide +kernel
theorem dX3_isLatched_16 : decode cX3_isLatched 16 = .ok (.iconst 1, 1) := by decide +kernel
theorem dX3_isLatched_17 : decode cX3_isLatched 17 = .ok (.goto 4, 3) := by decide +kernel
theorem dX3_isLatched_20 : decode cX3_isLatched 20 = .ok (.iconst 0, 1) := by decide +kernel
theorem dX3_isLatched_21 : decode cX3_isLatched 21 = .ok (.ireturn, 1) := by decide +kernel
set_option maxRecDepth 20000 in
theorem ggX3_slotOf_X8_isFault : GoodIn wsX3_slotOf wsX8_isFault := goodIn_r _ [4, 5, 6, 3, 7] (by decide +kernel) (by decide +kernel)
set_option maxRecDepth 20000 in
theorem gX3_slotOf_X8_isFault_n26 : GoodIn wsX3_slotOf (wsX8_isFault) := ggX3_slotOf_X8_isFault
theorem dX3_slotOf_0 : decode cX3_slotOf 0 = .ok (.iload_n 1, 1) := by decide +kernel
theorem dX3_slotOf_1 : decode cX3_slotOf 1 = .ok (.invokestatic 26, 3) := by decide +kernel
theorem dX3_slotOf_4 : decode cX3_slotOf 4 = .ok (.ifCond .eq 12, 3) := by decide +kernel
theorem dX3_slotOf_7 : decode cX3_slotOf 7 = .ok (.aload_n 0, 1) := by decide +kernel
theorem dX3_slotOf_8 : decode cX3_slotOf 8 = .ok (.getfield 15, 3) := by decide +kernel
theorem dX3_slotOf_11 : decode cX3_slotOf 11 = .ok (.iload_n 1, 1) := by decide +kernel
theorem dX3_slotOf_12 : decode cX3_slotOf 12 = .ok (.iaload, 1) := by decide +kernel
theorem dX3_slotOf_13 : decode cX3_slotOf 13 = .ok (.goto 4, 3) := by decide +kernel
theorem dX3_slotOf_16 : decode cX3_slotOf 16 = .ok (.iconst 0, 1) := by decide +kernel
theorem dX3_slotOf_17 : decode cX3_slotOf 17 = .ok (.ireturn, 1) := by decide +kernel
set_option maxRecDepth 20000 in
theorem ggX3_currentOf_X8_isFault : GoodIn wsX3_currentOf wsX8_isFault := goodIn_r _ [4, 5, 6, 3, 7] (by decide +kernel) (by decide +kernel)
set_option maxRecDepth 20000 in
theorem gX3_currentOf_X8_isFault_n26 : GoodIn wsX3_currentOf (wsX8_isFault) := ggX3_currentOf_X8_isFault
theorem dX3_currentOf_0 : decode cX3_currentOf 0 = .ok (.iload_n 1, 1) := by decide +kernel
theorem dX3_currentOf_1 : decode cX3_currentOf 1 = .ok (.invokestatic 26, 3) := by decide +kernel
theorem dX3_currentOf_4 : decode cX3_currentOf 4 = .ok (.ifCond .eq 12, 3) := by decide +kernel
theorem dX3_currentOf_7 : decode cX3_currentOf 7 = .ok (.aload_n 0, 1) := by decide +kernel
theorem dX3_currentOf_8 : decode cX3_currentOf 8 = .ok (.getfield 19, 3) := by decide +kernel
theorem dX3_currentOf_11 : decode cX3_currentOf 11 = .ok (.iload_n 1, 1) := by decide +kernel
theorem dX3_currentOf_12 : decode cX3_currentOf 12 = .ok (.iaload, 1) := by decide +kernel
theorem dX3_currentOf_13 : decode cX3_currentOf 13 = .ok (.goto 4, 3) := by decide +kernel
theorem dX3_currentOf_16 : decode cX3_currentOf 16 = .ok (.iconst 0, 1) := by decide +kernel
theorem dX3_currentOf_17 : decode cX3_currentOf 17 = .ok (.ireturn, 1) := by decide +kernel
set_option maxRecDepth 20000 in
theorem ggX3_placeOf_X3_slotOf : GoodIn wsX3_placeOf wsX3_slotOf := goodIn_r _ [7, 1, 8, 9, 10, 11, 12, 13, 14, 15, 16, 17] (by decide +kernel) (by decide +kernel)
set_option maxRecDepth 20000 in
theorem gX3_placeOf_X3_slotOf : GoodIn wsX3_placeOf (wsV RX3 30 RX3 yX3_slotOf wsX3_slotOf) := goodIn_app (goodIn_of _ (by decide +kernel)) ggX3_placeOf_X3_slotOf
theorem dX3_placeOf_0 : decode cX3_placeOf 0 = .ok (.aload_n 0, 1) := by decide +kernel
theorem dX3_placeOf_1 : decode cX3_placeOf 1 = .ok (.iload_n 1, 1) := by decide +kernel
theorem dX3_placeOf_2 : decode cX3_placeOf 2 = .ok (.invokevirtual 30, 3) := by decide +kernel
theorem dX3_placeOf_5 : decode cX3_placeOf 5 = .ok (.istore_n 2, 1) := by decide +kernel
theorem dX3_placeOf_6 : decode cX3_placeOf 6 = .ok (.iconst 0, 1) := by decide +kernel
theorem dX3_placeOf_7 : decode cX3_placeOf 7 = .ok (.istore_n 3, 1) := by decide +kernel
theorem dX3_placeOf_8 : decode cX3_placeOf 8 = .ok (.iconst 0, 1) := by decide +kernel
theorem dX3_placeOf_9 : decode cX3_placeOf 9 = .ok (.istore 4, 2) := by decide +kernel
theorem dX3_placeOf_11 : decode cX3_placeOf 11 = .ok (.iload 4, 2) := by decide +kernel
theorem dX3_placeOf_13 : decode cX3_placeOf 13 = .ok (.iconst 3, 1) := by decide +kernel
theorem dX3_placeOf_14 : decode cX3_placeOf 14 = .ok (.if_icmp .ge 62, 3) := by decide +kernel
theorem dX3_placeOf_17 : decode cX3_placeOf 17 = .ok (.aload_n 0, 1) := by decide +kernel
theorem dX3_placeOf_18 : decode cX3_placeOf 18 = .ok (.getfield 15, 3) := by decide +kernel
theorem dX3_placeOf_21 : decode cX3_placeOf 21 = .ok (.iload 4, 2) := by decide +kernel
theorem dX3_placeOf_23 : decode cX3_placeOf 23 = .ok (.iaload, 1) := by decide +kernel
theorem dX3_placeOf_24 : decode cX3_placeOf 24 = .ok (.iload_n 2, 1) := by decide +kernel
theorem dX3_placeOf_25 : decode cX3_placeOf 25 = .ok (.if_icmp .lt 20, 3) := by decide +kernel
theorem dX3_placeOf_28 : decode cX3_placeOf 28 = .ok (.aload_n 0, 1) := by decide +kernel
theorem dX3_placeOf_29 : decode cX3_placeOf 29 = .ok (.getfield 15, 3) := by decide +kernel
theorem dX3_placeOf_32 : decode cX3_placeOf 32 = .ok (.iload 4, 2) := by decide +kernel
theorem dX3_placeOf_34 : decode cX3_placeOf 34 = .ok (.iaload, 1) := by decide +kernel
theorem dX3_placeOf_35 : decode cX3_placeOf 35 = .ok (.iload_n 2, 1) := by decide +kernel
theorem dX3_placeOf_36 : decode cX3_placeOf 36 = .ok (.if_icmp .ne 13, 3) := by decide +kernel
theorem dX3_placeOf_39 : decode cX3_placeOf 39 = .ok (.iload 4, 2) := by decide +kernel
theorem dX3_placeOf_41 : decode cX3_placeOf 41 = .ok (.iload_n 1, 1) := by decide +kernel
theorem dX3_placeOf_42 : decode cX3_placeOf 42 = .ok (.if_icmp .ge 7, 3) := by decide +kernel
theorem dX3_placeOf_45 : decode cX3_placeOf 45 = .ok (.iconst 1, 1) := by decide +kernel
theorem dX3_placeOf_46 : decode cX3_placeOf 46 = .ok (.goto 4, 3) := by decide +kernel
theorem dX3_placeOf_49 : decode cX3_placeOf 49 = .ok (.iconst 0, 1) := by decide +kernel
theorem dX3_placeOf_50 : decode cX3_placeOf 50 = .ok (.istore 5, 2) := by decide +kernel
theorem dX3_placeOf_52 : decode cX3_placeOf 52 = .ok (.aload_n 0, 1) := by decide +kernel
theorem dX3_placeOf_53 : decode cX3_placeOf 53 = .ok (.getfield 9, 3) := by decide +kernel
theorem dX3_placeOf_56 : decode cX3_placeOf 56 = .ok (.iload 4, 2) := by decide +kernel
theorem dX3_placeOf_58 : decode cX3_placeOf 58 = .ok (.baload, 1) := by decide +kernel
theorem dX3_placeOf_59 : decode cX3_placeOf 59 = .ok (.ifCond .eq 11, 3) := by decide +kernel
theorem dX3_placeOf_62 : decode cX3_placeOf 62 = .ok (.iload 5, 2) := by decide +kernel
theorem dX3_placeOf_64 : decode cX3_placeOf 64 = .ok (.ifCond .eq 6, 3) := by decide +kernel
theorem dX3_placeOf_67 : decode cX3_placeOf 67 = .ok (.iinc 3 1, 3) := by decide +kernel
theorem dX3_placeOf_70 : decode cX3_placeOf 70 = .ok (.iinc 4 1, 3) := by decide +kernel
theorem dX3_placeOf_73 : decode cX3_placeOf 73 = .ok (.goto (-62), 3) := by decide +kernel
theorem dX3_placeOf_76 : decode cX3_placeOf 76 = .ok (.iload_n 3, 1) := by decide +kernel
theorem dX3_placeOf_77 : decode cX3_placeOf 77 = .ok (.ireturn, 1) := by decide +kernel
set_option maxRecDepth 20000 in
theorem ggX3_latch_X8_isFault : GoodIn wsX3_latch wsX8_isFault := goodIn_r _ [7, 8, 9, 6, 10] (by decide +kernel) (by decide +kernel)
set_option maxRecDepth 20000 in
theorem gX3_latch_X8_isFault_n26 : GoodIn wsX3_latch (wsX8_isFault) := ggX3_latch_X8_isFault
theorem dX3_latch_0 : decode cX3_latch 0 = .ok (.iload_n 1, 1) := by decide +kernel
theorem dX3_latch_1 : decode cX3_latch 1 = .ok (.invokestatic 26, 3) := by decide +kernel
theorem dX3_latch_4 : decode cX3_latch 4 = .ok (.ifCond .eq 43, 3) := by decide +kernel
theorem dX3_latch_7 : decode cX3_latch 7 = .ok (.aload_n 0, 1) := by decide +kernel
theorem dX3_latch_8 : decode cX3_latch 8 = .ok (.getfield 9, 3) := by decide +kernel
theorem dX3_latch_11 : decode cX3_latch 11 = .ok (.iload_n 1, 1) := by decide +kernel
theorem dX3_latch_12 : decode cX3_latch 12 = .ok (.baload, 1) := by decide +kernel
theorem dX3_latch_13 : decode cX3_latch 13 = .ok (.ifCond .ne 34, 3) := by decide +kernel
theorem dX3_latch_16 : decode cX3_latch 16 = .ok (.aload_n 0, 1) := by decide +kernel
theorem dX3_latch_17 : decode cX3_latch 17 = .ok (.getfield 9, 3) := by decide +kernel
theorem dX3_latch_20 : decode cX3_latch 20 = .ok (.iload_n 1, 1) := by decide +kernel
theorem dX3_latch_21 : decode cX3_latch 21 = .ok (.iconst 1, 1) := by decide +kernel
theorem dX3_latch_22 : decode cX3_latch 22 = .ok (.bastore, 1) := by decide +kernel
theorem dX3_latch_23 : decode cX3_latch 23 = .ok (.aload_n 0, 1) := by decide +kernel
theorem dX3_latch_24 : decode cX3_latch 24 = .ok (.getfield 15, 3) := by decide +kernel
theorem dX3_latch_27 : decode cX3_latch 27 = .ok (.iload_n 1, 1) := by decide +kernel
theorem dX3_latch_28 : decode cX3_latch 28 = .ok (.iload_n 2, 1) := by decide +kernel
theorem dX3_latch_29 : decode cX3_latch 29 = .ok (.iastore, 1) := by decide +kernel
theorem dX3_latch_30 : decode cX3_latch 30 = .ok (.aload_n 0, 1) := by decide +kernel
theorem dX3_latch_31 : decode cX3_latch 31 = .ok (.getfield 19, 3) := by decide +kernel
theorem dX3_latch_34 : decode cX3_latch 34 = .ok (.iload_n 1, 1) := by decide +kernel
theorem dX3_latch_35 : decode cX3_latch 35 = .ok (.iload_n 3, 1) := by decide +kernel
theorem dX3_latch_36 : decode cX3_latch 36 = .ok (.iastore, 1) := by decide +kernel
theorem dX3_latch_37 : decode cX3_latch 37 = .ok (.aload_n 0, 1) := by decide +kernel
theorem dX3_latch_38 : decode cX3_latch 38 = .ok (.dup, 1) := by decide +kernel
theorem dX3_latch_39 : decode cX3_latch 39 = .ok (.getfield 22, 3) := by decide +kernel
theorem dX3_latch_42 : decode cX3_latch 42 = .ok (.iconst 1, 1) := by decide +kernel
theorem dX3_latch_43 : decode cX3_latch 43 = .ok (.iadd, 1) := by decide +kernel
theorem dX3_latch_44 : decode cX3_latch 44 = .ok (.putfield 22, 3) := by decide +kernel
theorem dX3_latch_47 : decode cX3_latch 47 = .ok (.return_, 1) := by decide +kernel
set_option maxRecDepth 20000 in
theorem ggX3_release_X3_isLatched : GoodIn wsX3_release wsX3_isLatched := goodIn_r _ [7, 1, 8, 9, 10, 11, 12, 13, 14, 15, 16, 17] (by decide +kernel) (by decide +kernel)
set_option maxRecDepth 20000 in
theorem gX3_release_X3_isLatched : GoodIn wsX3_release (wsV RX3 34 RX3 yX3_isLatched wsX3_isLatched) := goodIn_app (goodIn_of _ (by decide +kernel)) ggX3_release_X3_isLatched
theorem dX3_release_0 : decode cX3_release 0 = .ok (.aload_n 0, 1) := by decide +kernel
theorem dX3_release_1 : decode cX3_release 1 = .ok (.iload_n 1, 1) := by decide +kernel
theorem dX3_release_2 : decode cX3_release 2 = .ok (.invokevirtual 34, 3) := by decide +kernel
theorem dX3_release_5 : decode cX3_release 5 = .ok (.ifCond .eq 20, 3) := by decide +kernel
theorem dX3_release_8 : decode cX3_release 8 = .ok (.aload_n 0, 1) := by decide +kernel
theorem dX3_release_9 : decode cX3_release 9 = .ok (.getfield 9, 3) := by decide +kernel
theorem dX3_release_12 : decode cX3_release 12 = .ok (.iload_n 1, 1) := by decide +kernel
theorem dX3_release_13 : decode cX3_release 13 = .ok (.iconst 0, 1) := by decide +kernel
theorem dX3_release_14 : decode cX3_release 14 = .ok (.bastore, 1) := by decide +kernel
theorem dX3_release_15 : decode cX3_release 15 = .ok (.aload_n 0, 1) := by decide +kernel
theorem dX3_release_16 : decode cX3_release 16 = .ok (.dup, 1) := by decide +kernel
theorem dX3_release_17 : decode cX3_release 17 = .ok (.getfield 22, 3) := by decide +kernel
theorem dX3_release_20 : decode cX3_release 20 = .ok (.iconst 1, 1) := by decide +kernel
theorem dX3_release_21 : decode cX3_release 21 = .ok (.isub, 1) := by decide +kernel
theorem dX3_release_22 : decode cX3_release 22 = .ok (.putfield 22, 3) := by decide +kernel
theorem dX3_release_25 : decode cX3_release 25 = .ok (.return_, 1) := by decide +kernel

theorem dX4_init_0 : decode cX4_init 0 = .ok (.aload_n 0, 1) := by decide +kernel
theorem dX4_init_1 : decode cX4_init 1 = .ok (.invokespecial 3, 3) := by decide +kernel
theorem dX4_init_4 : decode cX4_init 4 = .ok (.return_, 1) := by decide +kernel
theorem dX4_copyFrom_0 : decode cX4_copyFrom 0 = .ok (.aload_n 0, 1) := by decide +kernel
theorem dX4_copyFrom_1 : decode cX4_copyFrom 1 = .ok (.aload_n 1, 1) := by decide +kernel
theorem dX4_copyFrom_2 : decode cX4_copyFrom 2 = .ok (.getfield 9, 3) := by decide +kernel
theorem dX4_copyFrom_5 : decode cX4_copyFrom 5 = .ok (.putfield 9, 3) := by decide +kernel
theorem dX4_copyFrom_8 : decode cX4_copyFrom 8 = .ok (.aload_n 0, 1) := by decide +kernel
theorem dX4_copyFrom_9 : decode cX4_copyFrom 9 = .ok (.aload_n 1, 1) := by decide +kernel
theorem dX4_copyFrom_10 : decode cX4_copyFrom 10 = .ok (.getfield 15, 3) := by decide +kernel
theorem dX4_copyFrom_13 : decode cX4_copyFrom 13 = .ok (.putfield 15, 3) := by decide +kernel
theorem dX4_copyFrom_16 : decode cX4_copyFrom 16 = .ok (.aload_n 0, 1) := by decide +kernel
theorem dX4_copyFrom_17 : decode cX4_copyFrom 17 = .ok (.aload_n 1, 1) := by decide +kernel
theorem dX4_copyFrom_18 : decode cX4_copyFrom 18 = .ok (.getfield 18, 3) := by decide +kernel
theorem dX4_copyFrom_21 : decode cX4_copyFrom 21 = .ok (.putfield 18, 3) := by decide +kernel
theorem dX4_copyFrom_24 : decode cX4_copyFrom 24 = .ok (.aload_n 0, 1) := by decide +kernel
theorem dX4_copyFrom_25 : decode cX4_copyFrom 25 = .ok (.aload_n 1, 1) := by decide +kernel
theorem dX4_copyFrom_26 : decode cX4_copyFrom 26 = .ok (.getfield 21, 3) := by decide +kernel
theorem dX4_copyFrom_29 : decode cX4_copyFrom 29 = .ok (.putfield 21, 3) := by decide +kernel
theorem dX4_copyFrom_32 : decode cX4_copyFrom 32 = .ok (.aload_n 0, 1) := by decide +kernel
theorem dX4_copyFrom_33 : decode cX4_copyFrom 33 = .ok (.aload_n 1, 1) := by decide +kernel
theorem dX4_copyFrom_34 : decode cX4_copyFrom 34 = .ok (.getfield 24, 3) := by decide +kernel
theorem dX4_copyFrom_37 : decode cX4_copyFrom 37 = .ok (.putfield 24, 3) := by decide +kernel
theorem dX4_copyFrom_40 : decode cX4_copyFrom 40 = .ok (.aload_n 0, 1) := by decide +kernel
theorem dX4_copyFrom_41 : decode cX4_copyFrom 41 = .ok (.aload_n 1, 1) := by decide +kernel
theorem dX4_copyFrom_42 : decode cX4_copyFrom 42 = .ok (.getfield 27, 3) := by decide +kernel
theorem dX4_copyFrom_45 : decode cX4_copyFrom 45 = .ok (.putfield 27, 3) := by decide +kernel
theorem dX4_copyFrom_48 : decode cX4_copyFrom 48 = .ok (.aload_n 0, 1) := by decide +kernel
theorem dX4_copyFrom_49 : decode cX4_copyFrom 49 = .ok (.aload_n 1, 1) := by decide +kernel
theorem dX4_copyFrom_50 : decode cX4_copyFrom 50 = .ok (.getfield 30, 3) := by decide +kernel
theorem dX4_copyFrom_53 : decode cX4_copyFrom 53 = .ok (.putfield 30, 3) := by decide +kernel
theorem dX4_copyFrom_56 : decode cX4_copyFrom 56 = .ok (.return_, 1) := by decide +kernel
set_option maxRecDepth 20000 in
theorem ggX4_pass_X4_stateFor : GoodIn wsX4_pass wsX4_stateFor := goodIn_r _ [7, 8, 9, 1, 10, 16, 17, 18, 19, 20, 21, 22] (by decide +kernel) (by decide +kernel)
set_option maxRecDepth 20000 in
theorem gX4_pass_X4_stateFor : GoodIn wsX4_pass (wsV RX4 33 RX4 yX4_stateFor wsX4_stateFor) := goodIn_app (goodIn_of _ (by decide +kernel)) ggX4_pass_X4_stateFor
set_option maxRecDepth 20000 in
theorem ggX4_pass_X4_countSlot : GoodIn wsX4_pass wsX4_countSlot := goodIn_r _ [14, 1, 10, 15, 8, 9, 16, 17, 18, 19, 20, 21, 22] (by decide +kernel) (by decide +kernel)
set_option maxRecDepth 20000 in
theorem gX4_pass_X4_countSlot : GoodIn wsX4_pass (wsV RX4 37 RX4 yX4_countSlot wsX4_countSlot) := goodIn_app (goodIn_of _ (by decide +kernel)) ggX4_pass_X4_countSlot
theorem dX4_pass_0 : decode cX4_pass 0 = .ok (.aload_n 0, 1) := by decide +kernel
theorem dX4_pass_1 : decode cX4_pass 1 = .ok (.iload_n 1, 1) := by decide +kernel
theorem dX4_pass_2 : decode cX4_pass 2 = .ok (.iload_n 2, 1) := by decide +kernel
theorem dX4_pass_3 : decode cX4_pass 3 = .ok (.invokevirtual 33, 3) := by decide +kernel
theorem dX4_pass_6 : decode cX4_pass 6 = .ok (.istore_n 3, 1) := by decide +kernel
theorem dX4_pass_7 : decode cX4_pass 7 = .ok (.iload_n 3, 1) := by decide +kernel
theorem dX4_pass_8 : decode cX4_pass 8 = .ok (.aload_n 0, 1) := by decide +kernel
theorem dX4_pass_9 : decode cX4_pass 9 = .ok (.getfield 15, 3) := by decide +kernel
theorem dX4_pass_12 : decode cX4_pass 12 = .ok (.if_icmp .eq 7, 3) := by decide +kernel
theorem dX4_pass_15 : decode cX4_pass 15 = .ok (.iconst 1, 1) := by decide +kernel
theorem dX4_pass_16 : decode cX4_pass 16 = .ok (.goto 4, 3) := by decide +kernel
theorem dX4_pass_19 : decode cX4_pass 19 = .ok (.iconst 0, 1) := by decide +kernel
theorem dX4_pass_20 : decode cX4_pass 20 = .ok (.istore 4, 2) := by decide +kernel
theorem dX4_pass_22 : decode cX4_pass 22 = .ok (.aload_n 0, 1) := by decide +kernel
theorem dX4_pass_23 : decode cX4_pass 23 = .ok (.iload_n 3, 1) := by decide +kernel
theorem dX4_pass_24 : decode cX4_pass 24 = .ok (.putfield 15, 3) := by decide +kernel
theorem dX4_pass_27 : decode cX4_pass 27 = .ok (.iload 4, 2) := by decide +kernel
theorem dX4_pass_29 : decode cX4_pass 29 = .ok (.ifCond .eq 13, 3) := by decide +kernel
theorem dX4_pass_32 : decode cX4_pass 32 = .ok (.aload_n 0, 1) := by decide +kernel
theorem dX4_pass_33 : decode cX4_pass 33 = .ok (.dup, 1) := by decide +kernel
theorem dX4_pass_34 : decode cX4_pass 34 = .ok (.getfield 21, 3) := by decide +kernel
theorem dX4_pass_37 : decode cX4_pass 37 = .ok (.iconst 1, 1) := by decide +kernel
theorem dX4_pass_38 : decode cX4_pass 38 = .ok (.iadd, 1) := by decide +kernel
theorem dX4_pass_39 : decode cX4_pass 39 = .ok (.putfield 21, 3) := by decide +kernel
theorem dX4_pass_42 : decode cX4_pass 42 = .ok (.aload_n 0, 1) := by decide +kernel
theorem dX4_pass_43 : decode cX4_pass 43 = .ok (.invokevirtual 37, 3) := by decide +kernel
theorem dX4_pass_46 : decode cX4_pass 46 = .ok (.iload 4, 2) := by decide +kernel
theorem dX4_pass_48 : decode cX4_pass 48 = .ok (.ireturn, 1) := by decide +kernel
theorem dX4_stateFor_0 : decode cX4_stateFor 0 = .ok (.aload_n 0, 1) := by decide +kernel
theorem dX4_stateFor_1 : decode cX4_stateFor 1 = .ok (.getfield 24, 3) := by decide +kernel
theorem dX4_stateFor_4 : decode cX4_stateFor 4 = .ok (.ifCond .ne 14, 3) := by decide +kernel
theorem dX4_stateFor_7 : decode cX4_stateFor 7 = .ok (.aload_n 0, 1) := by decide +kernel
theorem dX4_stateFor_8 : decode cX4_stateFor 8 = .ok (.getfield 27, 3) := by decide +kernel
theorem dX4_stateFor_11 : decode cX4_stateFor 11 = .ok (.ifCond .ne 7, 3) := by decide +kernel
theorem dX4_stateFor_14 : decode cX4_stateFor 14 = .ok (.iconst 1, 1) := by decide +kernel
theorem dX4_stateFor_15 : decode cX4_stateFor 15 = .ok (.goto 4, 3) := by decide +kernel
theorem dX4_stateFor_18 : decode cX4_stateFor 18 = .ok (.iconst 0, 1) := by decide +kernel
theorem dX4_stateFor_19 : decode cX4_stateFor 19 = .ok (.istore_n 3, 1) := by decide +kernel
theorem dX4_stateFor_20 : decode cX4_stateFor 20 = .ok (.iload_n 1, 1) := by decide +kernel
theorem dX4_stateFor_21 : decode cX4_stateFor 21 = .ok (.aload_n 0, 1) := by decide +kernel
theorem dX4_stateFor_22 : decode cX4_stateFor 22 = .ok (.getfield 15, 3) := by decide +kernel
theorem dX4_stateFor_25 : decode cX4_stateFor 25 = .ok (.if_icmp .eq 15, 3) := by decide +kernel
theorem dX4_stateFor_28 : decode cX4_stateFor 28 = .ok (.iload_n 3, 1) := by decide +kernel
theorem dX4_stateFor_29 : decode cX4_stateFor 29 = .ok (.ifCond .ne 11, 3) := by decide +kernel
theorem dX4_stateFor_32 : decode cX4_stateFor 32 = .ok (.aload_n 0, 1) := by decide +kernel
theorem dX4_stateFor_33 : decode cX4_stateFor 33 = .ok (.getfield 18, 3) := by decide +kernel
theorem dX4_stateFor_36 : decode cX4_stateFor 36 = .ok (.iload_n 2, 1) := by decide +kernel
theorem dX4_stateFor_37 : decode cX4_stateFor 37 = .ok (.if_icmp .lt 5, 3) := by decide +kernel
theorem dX4_stateFor_40 : decode cX4_stateFor 40 = .ok (.iload_n 1, 1) := by decide +kernel
theorem dX4_stateFor_41 : decode cX4_stateFor 41 = .ok (.ireturn, 1) := by decide +kernel
theorem dX4_stateFor_42 : decode cX4_stateFor 42 = .ok (.iconst 0, 1) := by decide +kernel
theorem dX4_stateFor_43 : decode cX4_stateFor 43 = .ok (.ireturn, 1) := by decide +kernel
theorem dX4_countSlot_0 : decode cX4_countSlot 0 = .ok (.aload_n 0, 1) := by decide +kernel
theorem dX4_countSlot_1 : decode cX4_countSlot 1 = .ok (.getfield 15, 3) := by decide +kernel
theorem dX4_countSlot_4 : decode cX4_countSlot 4 = .ok (.ifCond .ne 24, 3) := by decide +kernel
theorem dX4_countSlot_7 : decode cX4_countSlot 7 = .ok (.aload_n 0, 1) := by decide +kernel
theorem dX4_countSlot_8 : decode cX4_countSlot 8 = .ok (.dup, 1) := by decide +kernel
theorem dX4_countSlot_9 : decode cX4_countSlot 9 = .ok (.getfield 18, 3) := by decide +kernel
theorem dX4_countSlot_12 : decode cX4_countSlot 12 = .ok (.iconst 1, 1) := by decide +kernel
theorem dX4_countSlot_13 : decode cX4_countSlot 13 = .ok (.iadd, 1) := by decide +kernel
theorem dX4_countSlot_14 : decode cX4_countSlot 14 = .ok (.putfield 18, 3) := by decide +kernel
theorem dX4_countSlot_17 : decode cX4_countSlot 17 = .ok (.aload_n 0, 1) := by decide +kernel
theorem dX4_countSlot_18 : decode cX4_countSlot 18 = .ok (.dup, 1) := by decide +kernel
theorem dX4_countSlot_19 : decode cX4_countSlot 19 = .ok (.getfield 30, 3) := by decide +kernel
theorem dX4_countSlot_22 : decode cX4_countSlot 22 = .ok (.iconst 1, 1) := by decide +kernel
theorem dX4_countSlot_23 : decode cX4_countSlot 23 = .ok (.iadd, 1) := by decide +kernel
theorem dX4_countSlot_24 : decode cX4_countSlot 24 = .ok (.putfield 30, 3) := by decide +kernel
theorem dX4_countSlot_27 : decode cX4_countSlot 27 = .ok (.return_, 1) := by decide +kernel
theorem dX4_countSlot_28 : decode cX4_countSlot 28 = .ok (.aload_n 0, 1) := by decide +kernel
theorem dX4_countSlot_29 : decode cX4_countSlot 29 = .ok (.iconst 0, 1) := by decide +kernel
theorem dX4_countSlot_30 : decode cX4_countSlot 30 = .ok (.putfield 18, 3) := by decide +kernel
theorem dX4_countSlot_33 : decode cX4_countSlot 33 = .ok (.aload_n 0, 1) := by decide +kernel
theorem dX4_countSlot_34 : decode cX4_countSlot 34 = .ok (.getfield 15, 3) := by decide +kernel
theorem dX4_countSlot_37 : decode cX4_countSlot 37 = .ok (.iconst 1, 1) := by decide +kernel
theorem dX4_countSlot_38 : decode cX4_countSlot 38 = .ok (.if_icmp .ne 16, 3) := by decide +kernel
theorem dX4_countSlot_41 : decode cX4_countSlot 41 = .ok (.aload_n 0, 1) := by decide +kernel
theorem dX4_countSlot_42 : decode cX4_countSlot 42 = .ok (.dup, 1) := by decide +kernel
theorem dX4_countSlot_43 : decode cX4_countSlot 43 = .ok (.getfield 24, 3) := by decide +kernel
theorem dX4_countSlot_46 : decode cX4_countSlot 46 = .ok (.iconst 1, 1) := by decide +kernel
theorem dX4_countSlot_47 : decode cX4_countSlot 47 = .ok (.iadd, 1) := by decide +kernel
theorem dX4_countSlot_48 : decode cX4_countSlot 48 = .ok (.putfield 24, 3) := by decide +kernel
theorem dX4_countSlot_51 : decode cX4_countSlot 51 = .ok (.goto 13, 3) := by decide +kernel
theorem dX4_countSlot_54 : decode cX4_countSlot 54 = .ok (.aload_n 0, 1) := by decide +kernel
theorem dX4_countSlot_55 : decode cX4_countSlot 55 = .ok (.dup, 1) := by decide +kernel
theorem dX4_countSlot_56 : decode cX4_countSlot 56 = .ok (.getfield 27, 3) := by decide +kernel
theorem dX4_countSlot_59 : decode cX4_countSlot 59 = .ok (.iconst 1, 1) := by decide +kernel
theorem dX4_countSlot_60 : decode cX4_countSlot 60 = .ok (.iadd, 1) := by decide +kernel
theorem dX4_countSlot_61 : decode cX4_countSlot 61 = .ok (.putfield 27, 3) := by decide +kernel
theorem dX4_countSlot_64 : decode cX4_countSlot 64 = .ok (.return_, 1) := by decide +kernel

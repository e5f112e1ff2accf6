theorem dX7_init_0 : decode cX7_init 0 = .ok (.aload_n 0, 1) := by decide +kernel
theorem dX7_init_1 : decode cX7_init 1 = .ok (.invokespecial 3, 3) := by decide +kernel
theorem dX7_init_4 : decode cX7_init 4 = .ok (.aload_n 0, 1) := by decide +kernel
theorem dX7_init_5 : decode cX7_init 5 = .ok (.bipush 80, 2) := by decide +kernel
theorem dX7_init_7 : decode cX7_init 7 = .ok (.newarray .char, 2) := by decide +kernel
theorem dX7_init_9 : decode cX7_init 9 = .ok (.putfield 9, 3) := by decide +kernel
theorem dX7_init_12 : decode cX7_init 12 = .ok (.return_, 1) := by decide +kernel
theorem dX7_append_0 : decode cX7_append 0 = .ok (.aload_n 0, 1) := by decide +kernel
theorem dX7_append_1 : decode cX7_append 1 = .ok (.getfield 15, 3) := by decide +kernel
theorem dX7_append_4 : decode cX7_append 4 = .ok (.bipush 80, 2) := by decide +kernel
theorem dX7_append_6 : decode cX7_append 6 = .ok (.if_icmp .ge 23, 3) := by decide +kernel
theorem dX7_append_9 : decode cX7_append 9 = .ok (.aload_n 0, 1) := by decide +kernel
theorem dX7_append_10 : decode cX7_append 10 = .ok (.getfield 9, 3) := by decide +kernel
theorem dX7_append_13 : decode cX7_append 13 = .ok (.aload_n 0, 1) := by decide +kernel
theorem dX7_append_14 : decode cX7_append 14 = .ok (.getfield 15, 3) := by decide +kernel
theorem dX7_append_17 : decode cX7_append 17 = .ok (.iload_n 1, 1) := by decide +kernel
theorem dX7_append_18 : decode cX7_append 18 = .ok (.castore, 1) := by decide +kernel
theorem dX7_append_19 : decode cX7_append 19 = .ok (.aload_n 0, 1) := by decide +kernel
theorem dX7_append_20 : decode cX7_append 20 = .ok (.dup, 1) := by decide +kernel
theorem dX7_append_21 : decode cX7_append 21 = .ok (.getfield 15, 3) := by decide +kernel
theorem dX7_append_24 : decode cX7_append 24 = .ok (.iconst 1, 1) := by decide +kernel
theorem dX7_append_25 : decode cX7_append 25 = .ok (.iadd, 1) := by decide +kernel
theorem dX7_append_26 : decode cX7_append 26 = .ok (.putfield 15, 3) := by decide +kernel
theorem dX7_append_29 : decode cX7_append 29 = .ok (.return_, 1) := by decide +kernel
set_option maxRecDepth 20000 in
theorem ggX7_signAt_X8_isWithin : GoodIn wsX7_signAt wsX8_isWithin := goodIn_r _ [5] (by decide +kernel) (by decide +kernel)
set_option maxRecDepth 20000 in
theorem gX7_signAt_X8_isWithin_n19 : GoodIn wsX7_signAt (wsX8_isWithin) := ggX7_signAt_X8_isWithin
theorem dX7_signAt_0 : decode cX7_signAt 0 = .ok (.iload_n 1, 1) := by decide +kernel
theorem dX7_signAt_1 : decode cX7_signAt 1 = .ok (.iconst 0, 1) := by decide +kernel
theorem dX7_signAt_2 : decode cX7_signAt 2 = .ok (.aload_n 0, 1) := by decide +kernel
theorem dX7_signAt_3 : decode cX7_signAt 3 = .ok (.getfield 15, 3) := by decide +kernel
theorem dX7_signAt_6 : decode cX7_signAt 6 = .ok (.iconst 1, 1) := by decide +kernel
theorem dX7_signAt_7 : decode cX7_signAt 7 = .ok (.isub, 1) := by decide +kernel
theorem dX7_signAt_8 : decode cX7_signAt 8 = .ok (.invokestatic 19, 3) := by decide +kernel
theorem dX7_signAt_11 : decode cX7_signAt 11 = .ok (.ifCond .eq 12, 3) := by decide +kernel
theorem dX7_signAt_14 : decode cX7_signAt 14 = .ok (.aload_n 0, 1) := by decide +kernel
theorem dX7_signAt_15 : decode cX7_signAt 15 = .ok (.getfield 9, 3) := by decide +kernel
theorem dX7_signAt_18 : decode cX7_signAt 18 = .ok (.iload_n 1, 1) := by decide +kernel
theorem dX7_signAt_19 : decode cX7_signAt 19 = .ok (.caload, 1) := by decide +kernel
theorem dX7_signAt_20 : decode cX7_signAt 20 = .ok (.goto 5, 3) := by decide +kernel
theorem dX7_signAt_23 : decode cX7_signAt 23 = .ok (.bipush 59, 2) := by decide +kernel
theorem dX7_signAt_25 : decode cX7_signAt 25 = .ok (.ireturn, 1) := by decide +kernel
set_option maxRecDepth 20000 in
theorem ggX7_faultPlace_X7_signAt : GoodIn wsX7_faultPlace wsX7_signAt := goodIn_r _ [6, 1, 7, 8, 9, 10, 24, 25] (by decide +kernel) (by decide +kernel)
set_option maxRecDepth 20000 in
theorem gX7_faultPlace_X7_signAt : GoodIn wsX7_faultPlace (wsV RX7 23 RX7 yX7_signAt wsX7_signAt) := goodIn_app (goodIn_of _ (by decide +kernel)) ggX7_faultPlace_X7_signAt
set_option maxRecDepth 20000 in
theorem ggX7_faultPlace_X7_slotsBefore : GoodIn wsX7_faultPlace wsX7_slotsBefore := goodIn_r _ [14, 2, 3, 4, 5, 6, 1, 7, 8, 9, 10, 15, 16, 17, 24, 25] (by decide +kernel) (by decide +kernel)
set_option maxRecDepth 20000 in
theorem gX7_faultPlace_X7_slotsBefore : GoodIn wsX7_faultPlace (wsV RX7 27 RX7 yX7_slotsBefore wsX7_slotsBefore) := goodIn_app (goodIn_of _ (by decide +kernel)) ggX7_faultPlace_X7_slotsBefore
set_option maxRecDepth 20000 in
theorem ggX7_faultPlace_X8_isWithin : GoodIn wsX7_faultPlace wsX8_isWithin := goodIn_r _ [10] (by decide +kernel) (by decide +kernel)
set_option maxRecDepth 20000 in
theorem gX7_faultPlace_X8_isWithin_n19 : GoodIn wsX7_faultPlace (wsX8_isWithin) := ggX7_faultPlace_X8_isWithin
set_option maxRecDepth 20000 in
theorem ggX7_faultPlace_X7_expectedBehind : GoodIn wsX7_faultPlace wsX7_expectedBehind := goodIn_r _ [20, 21, 22, 5, 23, 15, 16, 17] (by decide +kernel) (by decide +kernel)
set_option maxRecDepth 20000 in
theorem gX7_faultPlace_X7_expectedBehind : GoodIn wsX7_faultPlace (va_wsS RX7 31 yX7_expectedBehind wsX7_expectedBehind) := goodIn_app (goodIn_of _ (by decide +kernel)) ggX7_faultPlace_X7_expectedBehind
theorem dX7_faultPlace_0 : decode cX7_faultPlace 0 = .ok (.iconst 0, 1) := by decide +kernel
theorem dX7_faultPlace_1 : decode cX7_faultPlace 1 = .ok (.istore_n 1, 1) := by decide +kernel
theorem dX7_faultPlace_2 : decode cX7_faultPlace 2 = .ok (.iconst 0, 1) := by decide +kernel
theorem dX7_faultPlace_3 : decode cX7_faultPlace 3 = .ok (.istore_n 2, 1) := by decide +kernel
theorem dX7_faultPlace_4 : decode cX7_faultPlace 4 = .ok (.iload_n 2, 1) := by decide +kernel
theorem dX7_faultPlace_5 : decode cX7_faultPlace 5 = .ok (.aload_n 0, 1) := by decide +kernel
theorem dX7_faultPlace_6 : decode cX7_faultPlace 6 = .ok (.getfield 15, 3) := by decide +kernel
theorem dX7_faultPlace_9 : decode cX7_faultPlace 9 = .ok (.if_icmp .ge 72, 3) := by decide +kernel
theorem dX7_faultPlace_12 : decode cX7_faultPlace 12 = .ok (.aload_n 0, 1) := by decide +kernel
theorem dX7_faultPlace_13 : decode cX7_faultPlace 13 = .ok (.iload_n 2, 1) := by decide +kernel
theorem dX7_faultPlace_14 : decode cX7_faultPlace 14 = .ok (.invokevirtual 23, 3) := by decide +kernel
theorem dX7_faultPlace_17 : decode cX7_faultPlace 17 = .ok (.istore_n 3, 1) := by decide +kernel
theorem dX7_faultPlace_18 : decode cX7_faultPlace 18 = .ok (.iload_n 3, 1) := by decide +kernel
theorem dX7_faultPlace_19 : decode cX7_faultPlace 19 = .ok (.bipush 59, 2) := by decide +kernel
theorem dX7_faultPlace_21 : decode cX7_faultPlace 21 = .ok (.if_icmp .ne 12, 3) := by decide +kernel
theorem dX7_faultPlace_24 : decode cX7_faultPlace 24 = .ok (.iload_n 1, 1) := by decide +kernel
theorem dX7_faultPlace_25 : decode cX7_faultPlace 25 = .ok (.iconst 5, 1) := by decide +kernel
theorem dX7_faultPlace_26 : decode cX7_faultPlace 26 = .ok (.if_icmp .le 7, 3) := by decide +kernel
theorem dX7_faultPlace_29 : decode cX7_faultPlace 29 = .ok (.iconst 1, 1) := by decide +kernel
theorem dX7_faultPlace_30 : decode cX7_faultPlace 30 = .ok (.goto 4, 3) := by decide +kernel
theorem dX7_faultPlace_33 : decode cX7_faultPlace 33 = .ok (.iconst 0, 1) := by decide +kernel
theorem dX7_faultPlace_34 : decode cX7_faultPlace 34 = .ok (.istore 4, 2) := by decide +kernel
theorem dX7_faultPlace_36 : decode cX7_faultPlace 36 = .ok (.iload 4, 2) := by decide +kernel
theorem dX7_faultPlace_38 : decode cX7_faultPlace 38 = .ok (.ifCond .eq 24, 3) := by decide +kernel
theorem dX7_faultPlace_41 : decode cX7_faultPlace 41 = .ok (.aload_n 0, 1) := by decide +kernel
theorem dX7_faultPlace_42 : decode cX7_faultPlace 42 = .ok (.iload_n 2, 1) := by decide +kernel
theorem dX7_faultPlace_43 : decode cX7_faultPlace 43 = .ok (.invokevirtual 27, 3) := by decide +kernel
theorem dX7_faultPlace_46 : decode cX7_faultPlace 46 = .ok (.iconst 1, 1) := by decide +kernel
theorem dX7_faultPlace_47 : decode cX7_faultPlace 47 = .ok (.sipush 500, 3) := by decide +kernel
theorem dX7_faultPlace_50 : decode cX7_faultPlace 50 = .ok (.invokestatic 19, 3) := by decide +kernel
theorem dX7_faultPlace_53 : decode cX7_faultPlace 53 = .ok (.ifCond .ne 9, 3) := by decide +kernel
theorem dX7_faultPlace_56 : decode cX7_faultPlace 56 = .ok (.iload_n 2, 1) := by decide +kernel
theorem dX7_faultPlace_57 : decode cX7_faultPlace 57 = .ok (.iload_n 1, 1) := by decide +kernel
theorem dX7_faultPlace_58 : decode cX7_faultPlace 58 = .ok (.iconst 5, 1) := by decide +kernel
theorem dX7_faultPlace_59 : decode cX7_faultPlace 59 = .ok (.isub, 1) := by decide +kernel
theorem dX7_faultPlace_60 : decode cX7_faultPlace 60 = .ok (.isub, 1) := by decide +kernel
theorem dX7_faultPlace_61 : decode cX7_faultPlace 61 = .ok (.ireturn, 1) := by decide +kernel
theorem dX7_faultPlace_62 : decode cX7_faultPlace 62 = .ok (.iload_n 1, 1) := by decide +kernel
theorem dX7_faultPlace_63 : decode cX7_faultPlace 63 = .ok (.iload_n 3, 1) := by decide +kernel
theorem dX7_faultPlace_64 : decode cX7_faultPlace 64 = .ok (.invokestatic 31, 3) := by decide +kernel
theorem dX7_faultPlace_67 : decode cX7_faultPlace 67 = .ok (.istore_n 1, 1) := by decide +kernel
theorem dX7_faultPlace_68 : decode cX7_faultPlace 68 = .ok (.iload_n 1, 1) := by decide +kernel
theorem dX7_faultPlace_69 : decode cX7_faultPlace 69 = .ok (.iconst (-1), 1) := by decide +kernel
theorem dX7_faultPlace_70 : decode cX7_faultPlace 70 = .ok (.if_icmp .ne 5, 3) := by decide +kernel
theorem dX7_faultPlace_73 : decode cX7_faultPlace 73 = .ok (.iload_n 2, 1) := by decide +kernel
theorem dX7_faultPlace_74 : decode cX7_faultPlace 74 = .ok (.ireturn, 1) := by decide +kernel
theorem dX7_faultPlace_75 : decode cX7_faultPlace 75 = .ok (.iinc 2 1, 3) := by decide +kernel
theorem dX7_faultPlace_78 : decode cX7_faultPlace 78 = .ok (.goto (-74), 3) := by decide +kernel
theorem dX7_faultPlace_81 : decode cX7_faultPlace 81 = .ok (.iload_n 1, 1) := by decide +kernel
theorem dX7_faultPlace_82 : decode cX7_faultPlace 82 = .ok (.ifCond .ne 7, 3) := by decide +kernel
theorem dX7_faultPlace_85 : decode cX7_faultPlace 85 = .ok (.iconst (-1), 1) := by decide +kernel
theorem dX7_faultPlace_86 : decode cX7_faultPlace 86 = .ok (.goto 7, 3) := by decide +kernel
theorem dX7_faultPlace_89 : decode cX7_faultPlace 89 = .ok (.aload_n 0, 1) := by decide +kernel
theorem dX7_faultPlace_90 : decode cX7_faultPlace 90 = .ok (.getfield 15, 3) := by decide +kernel
theorem dX7_faultPlace_93 : decode cX7_faultPlace 93 = .ok (.ireturn, 1) := by decide +kernel
set_option maxRecDepth 20000 in
theorem ggX7_expectedBehind_X7_isLetter : GoodIn wsX7_expectedBehind wsX7_isLetter := goodIn_r _ [4] (by decide +kernel) (by decide +kernel)
set_option maxRecDepth 20000 in
theorem gX7_expectedBehind_X7_isLetter : GoodIn wsX7_expectedBehind (va_wsS RX7 35 yX7_isLetter wsX7_isLetter) := goodIn_app (goodIn_of _ (by decide +kernel)) ggX7_expectedBehind_X7_isLetter
set_option maxRecDepth 20000 in
theorem ggX7_expectedBehind_X7_isDigit : GoodIn wsX7_expectedBehind wsX7_isDigit := goodIn_r _ [7] (by decide +kernel) (by decide +kernel)
set_option maxRecDepth 20000 in
theorem gX7_expectedBehind_X7_isDigit : GoodIn wsX7_expectedBehind (va_wsS RX7 39 yX7_isDigit wsX7_isDigit) := goodIn_app (goodIn_of _ (by decide +kernel)) ggX7_expectedBehind_X7_isDigit
theorem dX7_expectedBehind_0 : decode cX7_expectedBehind 0 = .ok (.iload_n 0, 1) := by decide +kernel
theorem dX7_expectedBehind_1 : decode cX7_expectedBehind 1 = .ok (.iconst 4, 1) := by decide +kernel
theorem dX7_expectedBehind_2 : decode cX7_expectedBehind 2 = .ok (.if_icmp .ge 18, 3) := by decide +kernel
theorem dX7_expectedBehind_5 : decode cX7_expectedBehind 5 = .ok (.iload_n 1, 1) := by decide +kernel
theorem dX7_expectedBehind_6 : decode cX7_expectedBehind 6 = .ok (.invokestatic 35, 3) := by decide +kernel
theorem dX7_expectedBehind_9 : decode cX7_expectedBehind 9 = .ok (.ifCond .eq 9, 3) := by decide +kernel
theorem dX7_expectedBehind_12 : decode cX7_expectedBehind 12 = .ok (.iload_n 0, 1) := by decide +kernel
theorem dX7_expectedBehind_13 : decode cX7_expectedBehind 13 = .ok (.iconst 1, 1) := by decide +kernel
theorem dX7_expectedBehind_14 : decode cX7_expectedBehind 14 = .ok (.iadd, 1) := by decide +kernel
theorem dX7_expectedBehind_15 : decode cX7_expectedBehind 15 = .ok (.goto 4, 3) := by decide +kernel
theorem dX7_expectedBehind_18 : decode cX7_expectedBehind 18 = .ok (.iconst (-1), 1) := by decide +kernel
theorem dX7_expectedBehind_19 : decode cX7_expectedBehind 19 = .ok (.ireturn, 1) := by decide +kernel
theorem dX7_expectedBehind_20 : decode cX7_expectedBehind 20 = .ok (.iload_n 1, 1) := by decide +kernel
theorem dX7_expectedBehind_21 : decode cX7_expectedBehind 21 = .ok (.bipush 59, 2) := by decide +kernel
theorem dX7_expectedBehind_23 : decode cX7_expectedBehind 23 = .ok (.if_icmp .ne 14, 3) := by decide +kernel
theorem dX7_expectedBehind_26 : decode cX7_expectedBehind 26 = .ok (.iload_n 0, 1) := by decide +kernel
theorem dX7_expectedBehind_27 : decode cX7_expectedBehind 27 = .ok (.iconst 5, 1) := by decide +kernel
theorem dX7_expectedBehind_28 : decode cX7_expectedBehind 28 = .ok (.if_icmp .ne 7, 3) := by decide +kernel
theorem dX7_expectedBehind_31 : decode cX7_expectedBehind 31 = .ok (.iconst (-1), 1) := by decide +kernel
theorem dX7_expectedBehind_32 : decode cX7_expectedBehind 32 = .ok (.goto 4, 3) := by decide +kernel
theorem dX7_expectedBehind_35 : decode cX7_expectedBehind 35 = .ok (.iconst 0, 1) := by decide +kernel
theorem dX7_expectedBehind_36 : decode cX7_expectedBehind 36 = .ok (.ireturn, 1) := by decide +kernel
theorem dX7_expectedBehind_37 : decode cX7_expectedBehind 37 = .ok (.iload_n 0, 1) := by decide +kernel
theorem dX7_expectedBehind_38 : decode cX7_expectedBehind 38 = .ok (.iconst 4, 1) := by decide +kernel
theorem dX7_expectedBehind_39 : decode cX7_expectedBehind 39 = .ok (.if_icmp .ne 15, 3) := by decide +kernel
theorem dX7_expectedBehind_42 : decode cX7_expectedBehind 42 = .ok (.iload_n 1, 1) := by decide +kernel
theorem dX7_expectedBehind_43 : decode cX7_expectedBehind 43 = .ok (.bipush 42, 2) := by decide +kernel
theorem dX7_expectedBehind_45 : decode cX7_expectedBehind 45 = .ok (.if_icmp .ne 7, 3) := by decide +kernel
theorem dX7_expectedBehind_48 : decode cX7_expectedBehind 48 = .ok (.iconst 5, 1) := by decide +kernel
theorem dX7_expectedBehind_49 : decode cX7_expectedBehind 49 = .ok (.goto 4, 3) := by decide +kernel
theorem dX7_expectedBehind_52 : decode cX7_expectedBehind 52 = .ok (.iconst (-1), 1) := by decide +kernel
theorem dX7_expectedBehind_53 : decode cX7_expectedBehind 53 = .ok (.ireturn, 1) := by decide +kernel
theorem dX7_expectedBehind_54 : decode cX7_expectedBehind 54 = .ok (.iload_n 1, 1) := by decide +kernel
theorem dX7_expectedBehind_55 : decode cX7_expectedBehind 55 = .ok (.invokestatic 39, 3) := by decide +kernel
theorem dX7_expectedBehind_58 : decode cX7_expectedBehind 58 = .ok (.ifCond .eq 15, 3) := by decide +kernel
theorem dX7_expectedBehind_61 : decode cX7_expectedBehind 61 = .ok (.iload_n 0, 1) := by decide +kernel
theorem dX7_expectedBehind_62 : decode cX7_expectedBehind 62 = .ok (.bipush 8, 2) := by decide +kernel
theorem dX7_expectedBehind_64 : decode cX7_expectedBehind 64 = .ok (.if_icmp .ge 9, 3) := by decide +kernel
theorem dX7_expectedBehind_67 : decode cX7_expectedBehind 67 = .ok (.iload_n 0, 1) := by decide +kernel
theorem dX7_expectedBehind_68 : decode cX7_expectedBehind 68 = .ok (.iconst 1, 1) := by decide +kernel
theorem dX7_expectedBehind_69 : decode cX7_expectedBehind 69 = .ok (.iadd, 1) := by decide +kernel
theorem dX7_expectedBehind_70 : decode cX7_expectedBehind 70 = .ok (.goto 4, 3) := by decide +kernel
theorem dX7_expectedBehind_73 : decode cX7_expectedBehind 73 = .ok (.iconst (-1), 1) := by decide +kernel
theorem dX7_expectedBehind_74 : decode cX7_expectedBehind 74 = .ok (.ireturn, 1) := by decide +kernel
theorem dX7_isLetter_0 : decode cX7_isLetter 0 = .ok (.iload_n 0, 1) := by decide +kernel
theorem dX7_isLetter_1 : decode cX7_isLetter 1 = .ok (.bipush 111, 2) := by decide +kernel
theorem dX7_isLetter_3 : decode cX7_isLetter 3 = .ok (.if_icmp .eq 21, 3) := by decide +kernel
theorem dX7_isLetter_6 : decode cX7_isLetter 6 = .ok (.iload_n 0, 1) := by decide +kernel
theorem dX7_isLetter_7 : decode cX7_isLetter 7 = .ok (.bipush 104, 2) := by decide +kernel
theorem dX7_isLetter_9 : decode cX7_isLetter 9 = .ok (.if_icmp .eq 15, 3) := by decide +kernel
theorem dX7_isLetter_12 : decode cX7_isLetter 12 = .ok (.iload_n 0, 1) := by decide +kernel
theorem dX7_isLetter_13 : decode cX7_isLetter 13 = .ok (.bipush 108, 2) := by decide +kernel
theorem dX7_isLetter_15 : decode cX7_isLetter 15 = .ok (.if_icmp .eq 9, 3) := by decide +kernel
theorem dX7_isLetter_18 : decode cX7_isLetter 18 = .ok (.iload_n 0, 1) := by decide +kernel
theorem dX7_isLetter_19 : decode cX7_isLetter 19 = .ok (.bipush 61, 2) := by decide +kernel
theorem dX7_isLetter_21 : decode cX7_isLetter 21 = .ok (.if_icmp .ne 7, 3) := by decide +kernel
theorem dX7_isLetter_24 : decode cX7_isLetter 24 = .ok (.iconst 1, 1) := by decide +kernel
theorem dX7_isLetter_25 : decode cX7_isLetter 25 = .ok (.goto 4, 3) := by decide +kernel
theorem dX7_isLetter_28 : decode cX7_isLetter 28 = .ok (.iconst 0, 1) := by decide +kernel
theorem dX7_isLetter_29 : decode cX7_isLetter 29 = .ok (.ireturn, 1) := by decide +kernel
theorem dX7_isDigit_0 : decode cX7_isDigit 0 = .ok (.iload_n 0, 1) := by decide +kernel
theorem dX7_isDigit_1 : decode cX7_isDigit 1 = .ok (.bipush 48, 2) := by decide +kernel
theorem dX7_isDigit_3 : decode cX7_isDigit 3 = .ok (.if_icmp .lt 13, 3) := by decide +kernel
theorem dX7_isDigit_6 : decode cX7_isDigit 6 = .ok (.iload_n 0, 1) := by decide +kernel
theorem dX7_isDigit_7 : decode cX7_isDigit 7 = .ok (.bipush 57, 2) := by decide +kernel
theorem dX7_isDigit_9 : decode cX7_isDigit 9 = .ok (.if_icmp .gt 7, 3) := by decide +kernel
theorem dX7_isDigit_12 : decode cX7_isDigit 12 = .ok (.iconst 1, 1) := by decide +kernel
theorem dX7_isDigit_13 : decode cX7_isDigit 13 = .ok (.goto 4, 3) := by decide +kernel
theorem dX7_isDigit_16 : decode cX7_isDigit 16 = .ok (.iconst 0, 1) := by decide +kernel
theorem dX7_isDigit_17 : decode cX7_isDigit 17 = .ok (.ireturn, 1) := by decide +kernel
set_option maxRecDepth 20000 in
theorem ggX7_slotsBefore_X7_signAt : GoodIn wsX7_slotsBefore wsX7_signAt := goodIn_r _ [5, 6, 7, 8, 9, 10, 14, 15] (by decide +kernel) (by decide +kernel)
set_option maxRecDepth 20000 in
theorem gX7_slotsBefore_X7_signAt : GoodIn wsX7_slotsBefore (wsV RX7 23 RX7 yX7_signAt wsX7_signAt) := goodIn_app (goodIn_of _ (by decide +kernel)) ggX7_slotsBefore_X7_signAt
set_option maxRecDepth 20000 in
theorem ggX7_slotsBefore_X7_isDigit : GoodIn wsX7_slotsBefore wsX7_isDigit := goodIn_r _ [13] (by decide +kernel) (by decide +kernel)
set_option maxRecDepth 20000 in
theorem gX7_slotsBefore_X7_isDigit : GoodIn wsX7_slotsBefore (va_wsS RX7 39 yX7_isDigit wsX7_isDigit) := goodIn_app (goodIn_of _ (by decide +kernel)) ggX7_slotsBefore_X7_isDigit
theorem dX7_slotsBefore_0 : decode cX7_slotsBefore 0 = .ok (.iconst 0, 1) := by decide +kernel
theorem dX7_slotsBefore_1 : decode cX7_slotsBefore 1 = .ok (.istore_n 2, 1) := by decide +kernel
theorem dX7_slotsBefore_2 : decode cX7_slotsBefore 2 = .ok (.iconst 1, 1) := by decide +kernel
theorem dX7_slotsBefore_3 : decode cX7_slotsBefore 3 = .ok (.istore_n 3, 1) := by decide +kernel
theorem dX7_slotsBefore_4 : decode cX7_slotsBefore 4 = .ok (.iload_n 1, 1) := by decide +kernel
theorem dX7_slotsBefore_5 : decode cX7_slotsBefore 5 = .ok (.iconst 1, 1) := by decide +kernel
theorem dX7_slotsBefore_6 : decode cX7_slotsBefore 6 = .ok (.isub, 1) := by decide +kernel
theorem dX7_slotsBefore_7 : decode cX7_slotsBefore 7 = .ok (.istore 4, 2) := by decide +kernel
theorem dX7_slotsBefore_9 : decode cX7_slotsBefore 9 = .ok (.iload 4, 2) := by decide +kernel
theorem dX7_slotsBefore_11 : decode cX7_slotsBefore 11 = .ok (.ifCond .lt 40, 3) := by decide +kernel
theorem dX7_slotsBefore_14 : decode cX7_slotsBefore 14 = .ok (.aload_n 0, 1) := by decide +kernel
theorem dX7_slotsBefore_15 : decode cX7_slotsBefore 15 = .ok (.iload 4, 2) := by decide +kernel
theorem dX7_slotsBefore_17 : decode cX7_slotsBefore 17 = .ok (.invokevirtual 23, 3) := by decide +kernel
theorem dX7_slotsBefore_20 : decode cX7_slotsBefore 20 = .ok (.invokestatic 39, 3) := by decide +kernel
theorem dX7_slotsBefore_23 : decode cX7_slotsBefore 23 = .ok (.ifCond .eq 28, 3) := by decide +kernel
theorem dX7_slotsBefore_26 : decode cX7_slotsBefore 26 = .ok (.iload_n 2, 1) := by decide +kernel
theorem dX7_slotsBefore_27 : decode cX7_slotsBefore 27 = .ok (.iload_n 3, 1) := by decide +kernel
theorem dX7_slotsBefore_28 : decode cX7_slotsBefore 28 = .ok (.aload_n 0, 1) := by decide +kernel
theorem dX7_slotsBefore_29 : decode cX7_slotsBefore 29 = .ok (.iload 4, 2) := by decide +kernel
theorem dX7_slotsBefore_31 : decode cX7_slotsBefore 31 = .ok (.invokevirtual 23, 3) := by decide +kernel
theorem dX7_slotsBefore_34 : decode cX7_slotsBefore 34 = .ok (.bipush 48, 2) := by decide +kernel
theorem dX7_slotsBefore_36 : decode cX7_slotsBefore 36 = .ok (.isub, 1) := by decide +kernel
theorem dX7_slotsBefore_37 : decode cX7_slotsBefore 37 = .ok (.imul, 1) := by decide +kernel
theorem dX7_slotsBefore_38 : decode cX7_slotsBefore 38 = .ok (.iadd, 1) := by decide +kernel
theorem dX7_slotsBefore_39 : decode cX7_slotsBefore 39 = .ok (.istore_n 2, 1) := by decide +kernel
theorem dX7_slotsBefore_40 : decode cX7_slotsBefore 40 = .ok (.iload_n 3, 1) := by decide +kernel
theorem dX7_slotsBefore_41 : decode cX7_slotsBefore 41 = .ok (.bipush 10, 2) := by decide +kernel
theorem dX7_slotsBefore_43 : decode cX7_slotsBefore 43 = .ok (.imul, 1) := by decide +kernel
theorem dX7_slotsBefore_44 : decode cX7_slotsBefore 44 = .ok (.istore_n 3, 1) := by decide +kernel
theorem dX7_slotsBefore_45 : decode cX7_slotsBefore 45 = .ok (.iinc 4 (-1), 3) := by decide +kernel
theorem dX7_slotsBefore_48 : decode cX7_slotsBefore 48 = .ok (.goto (-39), 3) := by decide +kernel
theorem dX7_slotsBefore_51 : decode cX7_slotsBefore 51 = .ok (.iload_n 3, 1) := by decide +kernel
theorem dX7_slotsBefore_52 : decode cX7_slotsBefore 52 = .ok (.iconst 1, 1) := by decide +kernel
theorem dX7_slotsBefore_53 : decode cX7_slotsBefore 53 = .ok (.if_icmp .ne 7, 3) := by decide +kernel
theorem dX7_slotsBefore_56 : decode cX7_slotsBefore 56 = .ok (.iconst 1, 1) := by decide +kernel
theorem dX7_slotsBefore_57 : decode cX7_slotsBefore 57 = .ok (.goto 4, 3) := by decide +kernel
theorem dX7_slotsBefore_60 : decode cX7_slotsBefore 60 = .ok (.iload_n 2, 1) := by decide +kernel
theorem dX7_slotsBefore_61 : decode cX7_slotsBefore 61 = .ok (.ireturn, 1) := by decide +kernel
set_option maxRecDepth 20000 in
theorem ggX7_slots_X7_signAt : GoodIn wsX7_slots wsX7_signAt := goodIn_r _ [6, 1, 7, 8, 9, 10, 18, 19] (by decide +kernel) (by decide +kernel)
set_option maxRecDepth 20000 in
theorem gX7_slots_X7_signAt : GoodIn wsX7_slots (wsV RX7 23 RX7 yX7_signAt wsX7_signAt) := goodIn_app (goodIn_of _ (by decide +kernel)) ggX7_slots_X7_signAt
set_option maxRecDepth 20000 in
theorem ggX7_slots_X7_slotsBefore : GoodIn wsX7_slots wsX7_slotsBefore := goodIn_r _ [14, 2, 3, 4, 5, 6, 1, 7, 8, 9, 10, 15, 16, 17, 18, 19] (by decide +kernel) (by decide +kernel)
set_option maxRecDepth 20000 in
theorem gX7_slots_X7_slotsBefore : GoodIn wsX7_slots (wsV RX7 27 RX7 yX7_slotsBefore wsX7_slotsBefore) := goodIn_app (goodIn_of _ (by decide +kernel)) ggX7_slots_X7_slotsBefore
theorem dX7_slots_0 : decode cX7_slots 0 = .ok (.iconst 0, 1) := by decide +kernel
theorem dX7_slots_1 : decode cX7_slots 1 = .ok (.istore_n 1, 1) := by decide +kernel
theorem dX7_slots_2 : decode cX7_slots 2 = .ok (.iconst 0, 1) := by decide +kernel
theorem dX7_slots_3 : decode cX7_slots 3 = .ok (.istore_n 2, 1) := by decide +kernel
theorem dX7_slots_4 : decode cX7_slots 4 = .ok (.iload_n 2, 1) := by decide +kernel
theorem dX7_slots_5 : decode cX7_slots 5 = .ok (.aload_n 0, 1) := by decide +kernel
theorem dX7_slots_6 : decode cX7_slots 6 = .ok (.getfield 15, 3) := by decide +kernel
theorem dX7_slots_9 : decode cX7_slots 9 = .ok (.if_icmp .ge 27, 3) := by decide +kernel
theorem dX7_slots_12 : decode cX7_slots 12 = .ok (.aload_n 0, 1) := by decide +kernel
theorem dX7_slots_13 : decode cX7_slots 13 = .ok (.iload_n 2, 1) := by decide +kernel
theorem dX7_slots_14 : decode cX7_slots 14 = .ok (.invokevirtual 23, 3) := by decide +kernel
theorem dX7_slots_17 : decode cX7_slots 17 = .ok (.bipush 59, 2) := by decide +kernel
theorem dX7_slots_19 : decode cX7_slots 19 = .ok (.if_icmp .ne 11, 3) := by decide +kernel
theorem dX7_slots_22 : decode cX7_slots 22 = .ok (.iload_n 1, 1) := by decide +kernel
theorem dX7_slots_23 : decode cX7_slots 23 = .ok (.aload_n 0, 1) := by decide +kernel
theorem dX7_slots_24 : decode cX7_slots 24 = .ok (.iload_n 2, 1) := by decide +kernel
theorem dX7_slots_25 : decode cX7_slots 25 = .ok (.invokevirtual 27, 3) := by decide +kernel
theorem dX7_slots_28 : decode cX7_slots 28 = .ok (.iadd, 1) := by decide +kernel
theorem dX7_slots_29 : decode cX7_slots 29 = .ok (.istore_n 1, 1) := by decide +kernel
theorem dX7_slots_30 : decode cX7_slots 30 = .ok (.iinc 2 1, 3) := by decide +kernel
theorem dX7_slots_33 : decode cX7_slots 33 = .ok (.goto (-29), 3) := by decide +kernel
theorem dX7_slots_36 : decode cX7_slots 36 = .ok (.iload_n 1, 1) := by decide +kernel
theorem dX7_slots_37 : decode cX7_slots 37 = .ok (.ireturn, 1) := by decide +kernel

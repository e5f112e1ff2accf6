theorem dL_cell_0 : decode cL_cell 0 = .ok (.iload_n 1, 1) := by decide +kernel
theorem dL_cell_1 : decode cL_cell 1 = .ok (.aload_n 0, 1) := by decide +kernel
theorem dL_cell_2 : decode cL_cell 2 = .ok (.arraylength, 1) := by decide +kernel
theorem dL_cell_3 : decode cL_cell 3 = .ok (.if_icmp .ge 9, 3) := by decide +kernel
theorem dL_cell_6 : decode cL_cell 6 = .ok (.aload_n 0, 1) := by decide +kernel
theorem dL_cell_7 : decode cL_cell 7 = .ok (.iload_n 1, 1) := by decide +kernel
theorem dL_cell_8 : decode cL_cell 8 = .ok (.iaload, 1) := by decide +kernel
theorem dL_cell_9 : decode cL_cell 9 = .ok (.goto 10, 3) := by decide +kernel
theorem dL_cell_12 : decode cL_cell 12 = .ok (.ldc 7, 2) := by decide +kernel
theorem dL_cell_14 : decode cL_cell 14 = .ok (.iload_n 1, 1) := by decide +kernel
theorem dL_cell_15 : decode cL_cell 15 = .ok (.imul, 1) := by decide +kernel
theorem dL_cell_16 : decode cL_cell 16 = .ok (.bipush 109, 2) := by decide +kernel
theorem dL_cell_18 : decode cL_cell 18 = .ok (.iadd, 1) := by decide +kernel
theorem dL_cell_19 : decode cL_cell 19 = .ok (.ldc 8, 2) := by decide +kernel
theorem dL_cell_21 : decode cL_cell 21 = .ok (.iand, 1) := by decide +kernel
theorem dL_cell_22 : decode cL_cell 22 = .ok (.ireturn, 1) := by decide +kernel
theorem dL_holds_0 : decode cL_holds 0 = .ok (.lconst 0, 1) := by decide +kernel
theorem dL_holds_1 : decode cL_holds 1 = .ok (.lstore_n 1, 1) := by decide +kernel
theorem dL_holds_2 : decode cL_holds 2 = .ok (.lconst 0, 1) := by decide +kernel
theorem dL_holds_3 : decode cL_holds 3 = .ok (.lstore_n 3, 1) := by decide +kernel
theorem dL_holds_4 : decode cL_holds 4 = .ok (.aload_n 0, 1) := by decide +kernel
theorem dL_holds_5 : decode cL_holds 5 = .ok (.iconst 2, 1) := by decide +kernel
theorem dL_holds_6 : decode cL_holds 6 = .ok (.invokevirtual 9, 3) := by decide +kernel
theorem dL_holds_9 : decode cL_holds 9 = .ok (.aload_n 0, 1) := by decide +kernel
theorem dL_holds_10 : decode cL_holds 10 = .ok (.iconst 0, 1) := by decide +kernel
theorem dL_holds_11 : decode cL_holds 11 = .ok (.invokevirtual 9, 3) := by decide +kernel
theorem dL_holds_14 : decode cL_holds 14 = .ok (.ldc2_w 15, 3) := by decide +kernel
theorem dL_holds_17 : decode cL_holds 17 = .ok (.lcmp, 1) := by decide +kernel
theorem dL_holds_18 : decode cL_holds 18 = .ok (.ifCond .ge 11, 3) := by decide +kernel
theorem dL_holds_21 : decode cL_holds 21 = .ok (.aload_n 0, 1) := by decide +kernel
theorem dL_holds_22 : decode cL_holds 22 = .ok (.iconst 0, 1) := by decide +kernel
theorem dL_holds_23 : decode cL_holds 23 = .ok (.invokevirtual 9, 3) := by decide +kernel
theorem dL_holds_26 : decode cL_holds 26 = .ok (.goto 6, 3) := by decide +kernel
theorem dL_holds_29 : decode cL_holds 29 = .ok (.ldc2_w 15, 3) := by decide +kernel
theorem dL_holds_32 : decode cL_holds 32 = .ok (.lcmp, 1) := by decide +kernel
theorem dL_holds_33 : decode cL_holds 33 = .ok (.ifCond .ne 7, 3) := by decide +kernel
theorem dL_holds_36 : decode cL_holds 36 = .ok (.iconst 1, 1) := by decide +kernel
theorem dL_holds_37 : decode cL_holds 37 = .ok (.goto 4, 3) := by decide +kernel
theorem dL_holds_40 : decode cL_holds 40 = .ok (.iconst 0, 1) := by decide +kernel
theorem dL_holds_41 : decode cL_holds 41 = .ok (.istore 5, 2) := by decide +kernel
theorem dL_holds_43 : decode cL_holds 43 = .ok (.iconst 0, 1) := by decide +kernel
theorem dL_holds_44 : decode cL_holds 44 = .ok (.istore 6, 2) := by decide +kernel
theorem dL_holds_46 : decode cL_holds 46 = .ok (.iload 6, 2) := by decide +kernel
theorem dL_holds_48 : decode cL_holds 48 = .ok (.iconst 4, 1) := by decide +kernel
theorem dL_holds_49 : decode cL_holds 49 = .ok (.if_icmp .ge 133, 3) := by decide +kernel
theorem dL_holds_52 : decode cL_holds 52 = .ok (.iload 5, 2) := by decide +kernel
theorem dL_holds_54 : decode cL_holds 54 = .ok (.ifCond .eq 128, 3) := by decide +kernel
theorem dL_holds_57 : decode cL_holds 57 = .ok (.lload_n 1, 1) := by decide +kernel
theorem dL_holds_58 : decode cL_holds 58 = .ok (.aload_n 0, 1) := by decide +kernel
theorem dL_holds_59 : decode cL_holds 59 = .ok (.iload 6, 2) := by decide +kernel
theorem dL_holds_61 : decode cL_holds 61 = .ok (.iconst 4, 1) := by decide +kernel
theorem dL_holds_62 : decode cL_holds 62 = .ok (.invokevirtual 17, 3) := by decide +kernel
theorem dL_holds_65 : decode cL_holds 65 = .ok (.i2l, 1) := by decide +kernel
theorem dL_holds_66 : decode cL_holds 66 = .ok (.ladd, 1) := by decide +kernel
theorem dL_holds_67 : decode cL_holds 67 = .ok (.lstore_n 1, 1) := by decide +kernel
theorem dL_holds_68 : decode cL_holds 68 = .ok (.aload_n 0, 1) := by decide +kernel
theorem dL_holds_69 : decode cL_holds 69 = .ok (.iload 6, 2) := by decide +kernel
theorem dL_holds_71 : decode cL_holds 71 = .ok (.iconst 5, 1) := by decide +kernel
theorem dL_holds_72 : decode cL_holds 72 = .ok (.invokevirtual 17, 3) := by decide +kernel
theorem dL_holds_75 : decode cL_holds 75 = .ok (.aload_n 0, 1) := by decide +kernel
theorem dL_holds_76 : decode cL_holds 76 = .ok (.iload 6, 2) := by decide +kernel
theorem dL_holds_78 : decode cL_holds 78 = .ok (.bipush 6, 2) := by decide +kernel
theorem dL_holds_80 : decode cL_holds 80 = .ok (.invokevirtual 17, 3) := by decide +kernel
theorem dL_holds_83 : decode cL_holds 83 = .ok (.iadd, 1) := by decide +kernel
theorem dL_holds_84 : decode cL_holds 84 = .ok (.aload_n 0, 1) := by decide +kernel
theorem dL_holds_85 : decode cL_holds 85 = .ok (.iload 6, 2) := by decide +kernel
theorem dL_holds_87 : decode cL_holds 87 = .ok (.bipush 7, 2) := by decide +kernel
theorem dL_holds_89 : decode cL_holds 89 = .ok (.invokevirtual 17, 3) := by decide +kernel
theorem dL_holds_92 : decode cL_holds 92 = .ok (.iadd, 1) := by decide +kernel
theorem dL_holds_93 : decode cL_holds 93 = .ok (.i2l, 1) := by decide +kernel
theorem dL_holds_94 : decode cL_holds 94 = .ok (.aload_n 0, 1) := by decide +kernel
theorem dL_holds_95 : decode cL_holds 95 = .ok (.iconst 0, 1) := by decide +kernel
theorem dL_holds_96 : decode cL_holds 96 = .ok (.invokevirtual 9, 3) := by decide +kernel
theorem dL_holds_99 : decode cL_holds 99 = .ok (.lcmp, 1) := by decide +kernel
theorem dL_holds_100 : decode cL_holds 100 = .ok (.ifCond .ne 73, 3) := by decide +kernel
theorem dL_holds_103 : decode cL_holds 103 = .ok (.aload_n 0, 1) := by decide +kernel
theorem dL_holds_104 : decode cL_holds 104 = .ok (.iload 6, 2) := by decide +kernel
theorem dL_holds_106 : decode cL_holds 106 = .ok (.iconst 1, 1) := by decide +kernel
theorem dL_holds_107 : decode cL_holds 107 = .ok (.invokevirtual 17, 3) := by decide +kernel
theorem dL_holds_110 : decode cL_holds 110 = .ok (.ifCond .le 7, 3) := by decide +kernel
theorem dL_holds_113 : decode cL_holds 113 = .ok (.iconst 1, 1) := by decide +kernel
theorem dL_holds_114 : decode cL_holds 114 = .ok (.goto 4, 3) := by decide +kernel
theorem dL_holds_117 : decode cL_holds 117 = .ok (.iconst 0, 1) := by decide +kernel
theorem dL_holds_118 : decode cL_holds 118 = .ok (.aload_n 0, 1) := by decide +kernel
theorem dL_holds_119 : decode cL_holds 119 = .ok (.iload 6, 2) := by decide +kernel
theorem dL_holds_121 : decode cL_holds 121 = .ok (.iconst 3, 1) := by decide +kernel
theorem dL_holds_122 : decode cL_holds 122 = .ok (.invokevirtual 17, 3) := by decide +kernel
theorem dL_holds_125 : decode cL_holds 125 = .ok (.ifCond .ne 17, 3) := by decide +kernel
theorem dL_holds_128 : decode cL_holds 128 = .ok (.aload_n 0, 1) := by decide +kernel
theorem dL_holds_129 : decode cL_holds 129 = .ok (.iconst 0, 1) := by decide +kernel
theorem dL_holds_130 : decode cL_holds 130 = .ok (.invokevirtual 9, 3) := by decide +kernel
theorem dL_holds_133 : decode cL_holds 133 = .ok (.lconst 0, 1) := by decide +kernel
theorem dL_holds_134 : decode cL_holds 134 = .ok (.lcmp, 1) := by decide +kernel
theorem dL_holds_135 : decode cL_holds 135 = .ok (.ifCond .le 7, 3) := by decide +kernel
theorem dL_holds_138 : decode cL_holds 138 = .ok (.iconst 1, 1) := by decide +kernel
theorem dL_holds_139 : decode cL_holds 139 = .ok (.goto 4, 3) := by decide +kernel
theorem dL_holds_142 : decode cL_holds 142 = .ok (.iconst 0, 1) := by decide +kernel
theorem dL_holds_143 : decode cL_holds 143 = .ok (.if_icmp .ne 30, 3) := by decide +kernel
theorem dL_holds_146 : decode cL_holds 146 = .ok (.aload_n 0, 1) := by decide +kernel
theorem dL_holds_147 : decode cL_holds 147 = .ok (.iload 6, 2) := by decide +kernel

theorem dX9_quietFirst_39 : decode cX9_quietFirst 39 = .ok (.iload_n 1, 1) := by decide +kernel
theorem dX9_quietFirst_40 : decode cX9_quietFirst 40 = .ok (.imul, 1) := by decide +kernel
theorem dX9_quietFirst_41 : decode cX9_quietFirst 41 = .ok (.iadd, 1) := by decide +kernel
theorem dX9_quietFirst_42 : decode cX9_quietFirst 42 = .ok (.iconst 2, 1) := by decide +kernel
theorem dX9_quietFirst_43 : decode cX9_quietFirst 43 = .ok (.iadd, 1) := by decide +kernel
theorem dX9_quietFirst_44 : decode cX9_quietFirst 44 = .ok (.iload 4, 2) := by decide +kernel
theorem dX9_quietFirst_46 : decode cX9_quietFirst 46 = .ok (.iastore, 1) := by decide +kernel
theorem dX9_quietFirst_47 : decode cX9_quietFirst 47 = .ok (.aload_n 0, 1) := by decide +kernel
theorem dX9_quietFirst_48 : decode cX9_quietFirst 48 = .ok (.iload_n 1, 1) := by decide +kernel
theorem dX9_quietFirst_49 : decode cX9_quietFirst 49 = .ok (.invokevirtual 245, 3) := by decide +kernel
theorem dX9_quietFirst_52 : decode cX9_quietFirst 52 = .ok (.ifCond .ne 8, 3) := by decide +kernel
theorem dX9_quietFirst_55 : decode cX9_quietFirst 55 = .ok (.iload 4, 2) := by decide +kernel
theorem dX9_quietFirst_57 : decode cX9_quietFirst 57 = .ok (.goto 4, 3) := by decide +kernel
theorem dX9_quietFirst_60 : decode cX9_quietFirst 60 = .ok (.iload_n 3, 1) := by decide +kernel
theorem dX9_quietFirst_61 : decode cX9_quietFirst 61 = .ok (.istore_n 3, 1) := by decide +kernel
theorem dX9_quietFirst_62 : decode cX9_quietFirst 62 = .ok (.iinc 4 1, 3) := by decide +kernel
theorem dX9_quietFirst_65 : decode cX9_quietFirst 65 = .ok (.goto (-45), 3) := by decide +kernel
theorem dX9_quietFirst_68 : decode cX9_quietFirst 68 = .ok (.iload_n 3, 1) := by decide +kernel
theorem dX9_quietFirst_69 : decode cX9_quietFirst 69 = .ok (.ireturn, 1) := by decide +kernel
theorem dX9_mayHave_0 : decode cX9_mayHave 0 = .ok (.iload_n 2, 1) := by decide +kernel
theorem dX9_mayHave_1 : decode cX9_mayHave 1 = .ok (.i2l, 1) := by decide +kernel
theorem dX9_mayHave_2 : decode cX9_mayHave 2 = .ok (.ldc2_w 278, 3) := by decide +kernel
theorem dX9_mayHave_5 : decode cX9_mayHave 5 = .ok (.ldc2_w 280, 3) := by decide +kernel
theorem dX9_mayHave_8 : decode cX9_mayHave 8 = .ok (.invokestatic 71, 3) := by decide +kernel
theorem dX9_mayHave_11 : decode cX9_mayHave 11 = .ok (.ifCond .eq 17, 3) := by decide +kernel
theorem dX9_mayHave_14 : decode cX9_mayHave 14 = .ok (.iload_n 2, 1) := by decide +kernel
theorem dX9_mayHave_15 : decode cX9_mayHave 15 = .ok (.aload_n 0, 1) := by decide +kernel
theorem dX9_mayHave_16 : decode cX9_mayHave 16 = .ok (.iload_n 1, 1) := by decide +kernel
theorem dX9_mayHave_17 : decode cX9_mayHave 17 = .ok (.iconst 5, 1) := by decide +kernel
theorem dX9_mayHave_18 : decode cX9_mayHave 18 = .ok (.invokevirtual 143, 3) := by decide +kernel
theorem dX9_mayHave_21 : decode cX9_mayHave 21 = .ok (.if_icmp .le 7, 3) := by decide +kernel
theorem dX9_mayHave_24 : decode cX9_mayHave 24 = .ok (.iconst 1, 1) := by decide +kernel
theorem dX9_mayHave_25 : decode cX9_mayHave 25 = .ok (.goto 4, 3) := by decide +kernel
theorem dX9_mayHave_28 : decode cX9_mayHave 28 = .ok (.iconst 0, 1) := by decide +kernel
theorem dX9_mayHave_29 : decode cX9_mayHave 29 = .ok (.ireturn, 1) := by decide +kernel
theorem dX9_findCut_0 : decode cX9_findCut 0 = .ok (.aload_n 0, 1) := by decide +kernel
theorem dX9_findCut_1 : decode cX9_findCut 1 = .ok (.iload_n 1, 1) := by decide +kernel
theorem dX9_findCut_2 : decode cX9_findCut 2 = .ok (.iconst 1, 1) := by decide +kernel
theorem dX9_findCut_3 : decode cX9_findCut 3 = .ok (.invokevirtual 143, 3) := by decide +kernel
theorem dX9_findCut_6 : decode cX9_findCut 6 = .ok (.istore_n 2, 1) := by decide +kernel
theorem dX9_findCut_7 : decode cX9_findCut 7 = .ok (.aload_n 0, 1) := by decide +kernel
theorem dX9_findCut_8 : decode cX9_findCut 8 = .ok (.iload_n 1, 1) := by decide +kernel
theorem dX9_findCut_9 : decode cX9_findCut 9 = .ok (.iconst 2, 1) := by decide +kernel
theorem dX9_findCut_10 : decode cX9_findCut 10 = .ok (.invokevirtual 143, 3) := by decide +kernel
theorem dX9_findCut_13 : decode cX9_findCut 13 = .ok (.istore_n 3, 1) := by decide +kernel
theorem dX9_findCut_14 : decode cX9_findCut 14 = .ok (.aload_n 0, 1) := by decide +kernel
theorem dX9_findCut_15 : decode cX9_findCut 15 = .ok (.bipush (-4), 2) := by decide +kernel
theorem dX9_findCut_17 : decode cX9_findCut 17 = .ok (.putfield 282, 3) := by decide +kernel
theorem dX9_findCut_20 : decode cX9_findCut 20 = .ok (.iconst 0, 1) := by decide +kernel
theorem dX9_findCut_21 : decode cX9_findCut 21 = .ok (.istore 4, 2) := by decide +kernel
theorem dX9_findCut_23 : decode cX9_findCut 23 = .ok (.iload 4, 2) := by decide +kernel
theorem dX9_findCut_25 : decode cX9_findCut 25 = .ok (.bipush 60, 2) := by decide +kernel
theorem dX9_findCut_27 : decode cX9_findCut 27 = .ok (.if_icmp .ge 101, 3) := by decide +kernel
theorem dX9_findCut_30 : decode cX9_findCut 30 = .ok (.aload_n 0, 1) := by decide +kernel
theorem dX9_findCut_31 : decode cX9_findCut 31 = .ok (.getfield 282, 3) := by decide +kernel
theorem dX9_findCut_34 : decode cX9_findCut 34 = .ok (.bipush (-4), 2) := by decide +kernel
theorem dX9_findCut_36 : decode cX9_findCut 36 = .ok (.if_icmp .ne 92, 3) := by decide +kernel
theorem dX9_findCut_39 : decode cX9_findCut 39 = .ok (.iconst 0, 1) := by decide +kernel
theorem dX9_findCut_40 : decode cX9_findCut 40 = .ok (.istore 5, 2) := by decide +kernel
theorem dX9_findCut_42 : decode cX9_findCut 42 = .ok (.iload 5, 2) := by decide +kernel
theorem dX9_findCut_44 : decode cX9_findCut 44 = .ok (.iconst 2, 1) := by decide +kernel
theorem dX9_findCut_45 : decode cX9_findCut 45 = .ok (.if_icmp .ge 77, 3) := by decide +kernel
theorem dX9_findCut_48 : decode cX9_findCut 48 = .ok (.aload_n 0, 1) := by decide +kernel
theorem dX9_findCut_49 : decode cX9_findCut 49 = .ok (.getfield 282, 3) := by decide +kernel
theorem dX9_findCut_52 : decode cX9_findCut 52 = .ok (.bipush (-4), 2) := by decide +kernel
theorem dX9_findCut_54 : decode cX9_findCut 54 = .ok (.if_icmp .ne 68, 3) := by decide +kernel
theorem dX9_findCut_57 : decode cX9_findCut 57 = .ok (.iload 5, 2) := by decide +kernel
theorem dX9_findCut_59 : decode cX9_findCut 59 = .ok (.ifCond .ne 10, 3) := by decide +kernel
theorem dX9_findCut_62 : decode cX9_findCut 62 = .ok (.iload_n 2, 1) := by decide +kernel
theorem dX9_findCut_63 : decode cX9_findCut 63 = .ok (.iload 4, 2) := by decide +kernel
theorem dX9_findCut_65 : decode cX9_findCut 65 = .ok (.isub, 1) := by decide +kernel
theorem dX9_findCut_66 : decode cX9_findCut 66 = .ok (.goto 7, 3) := by decide +kernel
theorem dX9_findCut_69 : decode cX9_findCut 69 = .ok (.iload_n 2, 1) := by decide +kernel
theorem dX9_findCut_70 : decode cX9_findCut 70 = .ok (.iload 4, 2) := by decide +kernel
theorem dX9_findCut_72 : decode cX9_findCut 72 = .ok (.iadd, 1) := by decide +kernel
theorem dX9_findCut_73 : decode cX9_findCut 73 = .ok (.istore 6, 2) := by decide +kernel
theorem dX9_findCut_75 : decode cX9_findCut 75 = .ok (.aload_n 0, 1) := by decide +kernel
theorem dX9_findCut_76 : decode cX9_findCut 76 = .ok (.iload_n 1, 1) := by decide +kernel
theorem dX9_findCut_77 : decode cX9_findCut 77 = .ok (.iload 6, 2) := by decide +kernel
theorem dX9_findCut_79 : decode cX9_findCut 79 = .ok (.invokevirtual 285, 3) := by decide +kernel
theorem dX9_findCut_82 : decode cX9_findCut 82 = .ok (.ifCond .eq 34, 3) := by decide +kernel
theorem dX9_findCut_85 : decode cX9_findCut 85 = .ok (.aload_n 0, 1) := by decide +kernel
theorem dX9_findCut_86 : decode cX9_findCut 86 = .ok (.aload_n 0, 1) := by decide +kernel
theorem dX9_findCut_87 : decode cX9_findCut 87 = .ok (.iload_n 1, 1) := by decide +kernel
theorem dX9_findCut_88 : decode cX9_findCut 88 = .ok (.iload 6, 2) := by decide +kernel
theorem dX9_findCut_90 : decode cX9_findCut 90 = .ok (.invokevirtual 288, 3) := by decide +kernel
theorem dX9_findCut_93 : decode cX9_findCut 93 = .ok (.putfield 291, 3) := by decide +kernel
theorem dX9_findCut_96 : decode cX9_findCut 96 = .ok (.aload_n 0, 1) := by decide +kernel
theorem dX9_findCut_97 : decode cX9_findCut 97 = .ok (.aload_n 0, 1) := by decide +kernel
theorem dX9_findCut_98 : decode cX9_findCut 98 = .ok (.getfield 291, 3) := by decide +kernel
theorem dX9_findCut_101 : decode cX9_findCut 101 = .ok (.bipush (-4), 2) := by decide +kernel
theorem dX9_findCut_103 : decode cX9_findCut 103 = .ok (.if_icmp .ne 8, 3) := by decide +kernel
theorem dX9_findCut_106 : decode cX9_findCut 106 = .ok (.bipush (-4), 2) := by decide +kernel
theorem dX9_findCut_108 : decode cX9_findCut 108 = .ok (.goto 5, 3) := by decide +kernel
theorem dX9_findCut_111 : decode cX9_findCut 111 = .ok (.iload 6, 2) := by decide +kernel
theorem dX9_findCut_113 : decode cX9_findCut 113 = .ok (.putfield 282, 3) := by decide +kernel
theorem dX9_findCut_116 : decode cX9_findCut 116 = .ok (.iinc 5 1, 3) := by decide +kernel
theorem dX9_findCut_119 : decode cX9_findCut 119 = .ok (.goto (-77), 3) := by decide +kernel
theorem dX9_findCut_122 : decode cX9_findCut 122 = .ok (.iinc 4 1, 3) := by decide +kernel
theorem dX9_findCut_125 : decode cX9_findCut 125 = .ok (.goto (-102), 3) := by decide +kernel
theorem dX9_findCut_128 : decode cX9_findCut 128 = .ok (.aload_n 0, 1) := by decide +kernel
theorem dX9_findCut_129 : decode cX9_findCut 129 = .ok (.getfield 7, 3) := by decide +kernel
theorem dX9_findCut_132 : decode cX9_findCut 132 = .ok (.iconst 1, 1) := by decide +kernel
theorem dX9_findCut_133 : decode cX9_findCut 133 = .ok (.bipush 6, 2) := by decide +kernel
theorem dX9_findCut_135 : decode cX9_findCut 135 = .ok (.iload_n 1, 1) := by decide +kernel
theorem dX9_findCut_136 : decode cX9_findCut 136 = .ok (.imul, 1) := by decide +kernel
theorem dX9_findCut_137 : decode cX9_findCut 137 = .ok (.iadd, 1) := by decide +kernel
theorem dX9_findCut_138 : decode cX9_findCut 138 = .ok (.iconst 1, 1) := by decide +kernel
theorem dX9_findCut_139 : decode cX9_findCut 139 = .ok (.iadd, 1) := by decide +kernel
theorem dX9_findCut_140 : decode cX9_findCut 140 = .ok (.iload_n 2, 1) := by decide +kernel
theorem dX9_findCut_141 : decode cX9_findCut 141 = .ok (.iastore, 1) := by decide +kernel
theorem dX9_findCut_142 : decode cX9_findCut 142 = .ok (.aload_n 0, 1) := by decide +kernel
theorem dX9_findCut_143 : decode cX9_findCut 143 = .ok (.getfield 7, 3) := by decide +kernel
theorem dX9_findCut_146 : decode cX9_findCut 146 = .ok (.iconst 1, 1) := by decide +kernel
theorem dX9_findCut_147 : decode cX9_findCut 147 = .ok (.bipush 6, 2) := by decide +kernel
theorem dX9_findCut_149 : decode cX9_findCut 149 = .ok (.iload_n 1, 1) := by decide +kernel
theorem dX9_findCut_150 : decode cX9_findCut 150 = .ok (.imul, 1) := by decide +kernel
theorem dX9_findCut_151 : decode cX9_findCut 151 = .ok (.iadd, 1) := by decide +kernel
theorem dX9_findCut_152 : decode cX9_findCut 152 = .ok (.iconst 2, 1) := by decide +kernel
theorem dX9_findCut_153 : decode cX9_findCut 153 = .ok (.iadd, 1) := by decide +kernel
theorem dX9_findCut_154 : decode cX9_findCut 154 = .ok (.iload_n 3, 1) := by decide +kernel
theorem dX9_findCut_155 : decode cX9_findCut 155 = .ok (.iastore, 1) := by decide +kernel
theorem dX9_findCut_156 : decode cX9_findCut 156 = .ok (.aload_n 0, 1) := by decide +kernel
theorem dX9_findCut_157 : decode cX9_findCut 157 = .ok (.getfield 282, 3) := by decide +kernel
theorem dX9_findCut_160 : decode cX9_findCut 160 = .ok (.bipush (-4), 2) := by decide +kernel
theorem dX9_findCut_162 : decode cX9_findCut 162 = .ok (.if_icmp .eq 7, 3) := by decide +kernel
theorem dX9_findCut_165 : decode cX9_findCut 165 = .ok (.iconst 1, 1) := by decide +kernel
theorem dX9_findCut_166 : decode cX9_findCut 166 = .ok (.goto 4, 3) := by decide +kernel
theorem dX9_findCut_169 : decode cX9_findCut 169 = .ok (.iconst 0, 1) := by decide +kernel
theorem dX9_findCut_170 : decode cX9_findCut 170 = .ok (.ireturn, 1) := by decide +kernel
theorem dX9_cut_0 : decode cX9_cut 0 = .ok (.aload_n 0, 1) := by decide +kernel
theorem dX9_cut_1 : decode cX9_cut 1 = .ok (.iload_n 1, 1) := by decide +kernel
theorem dX9_cut_2 : decode cX9_cut 2 = .ok (.invokevirtual 146, 3) := by decide +kernel
theorem dX9_cut_5 : decode cX9_cut 5 = .ok (.ifCond .eq 13, 3) := by decide +kernel
theorem dX9_cut_8 : decode cX9_cut 8 = .ok (.iload_n 2, 1) := by decide +kernel
theorem dX9_cut_9 : decode cX9_cut 9 = .ok (.i2l, 1) := by decide +kernel
theorem dX9_cut_10 : decode cX9_cut 10 = .ok (.lconst 0, 1) := by decide +kernel
theorem dX9_cut_11 : decode cX9_cut 11 = .ok (.lconst 1, 1) := by decide +kernel
theorem dX9_cut_12 : decode cX9_cut 12 = .ok (.invokestatic 71, 3) := by decide +kernel
theorem dX9_cut_15 : decode cX9_cut 15 = .ok (.ifCond .ne 5, 3) := by decide +kernel
theorem dX9_cut_18 : decode cX9_cut 18 = .ok (.iconst (-1), 1) := by decide +kernel
theorem dX9_cut_19 : decode cX9_cut 19 = .ok (.ireturn, 1) := by decide +kernel
theorem dX9_cut_20 : decode cX9_cut 20 = .ok (.aload_n 0, 1) := by decide +kernel
theorem dX9_cut_21 : decode cX9_cut 21 = .ok (.iload_n 1, 1) := by decide +kernel
theorem dX9_cut_22 : decode cX9_cut 22 = .ok (.invokevirtual 294, 3) := by decide +kernel
theorem dX9_cut_25 : decode cX9_cut 25 = .ok (.ifCond .ne 8, 3) := by decide +kernel
theorem dX9_cut_28 : decode cX9_cut 28 = .ok (.bipush (-4), 2) := by decide +kernel
theorem dX9_cut_30 : decode cX9_cut 30 = .ok (.goto 18, 3) := by decide +kernel
theorem dX9_cut_33 : decode cX9_cut 33 = .ok (.iload_n 2, 1) := by decide +kernel
theorem dX9_cut_34 : decode cX9_cut 34 = .ok (.ifCond .ne 10, 3) := by decide +kernel
theorem dX9_cut_37 : decode cX9_cut 37 = .ok (.aload_n 0, 1) := by decide +kernel
theorem dX9_cut_38 : decode cX9_cut 38 = .ok (.getfield 282, 3) := by decide +kernel
theorem dX9_cut_41 : decode cX9_cut 41 = .ok (.goto 7, 3) := by decide +kernel
theorem dX9_cut_44 : decode cX9_cut 44 = .ok (.aload_n 0, 1) := by decide +kernel
theorem dX9_cut_45 : decode cX9_cut 45 = .ok (.getfield 291, 3) := by decide +kernel
theorem dX9_cut_48 : decode cX9_cut 48 = .ok (.ireturn, 1) := by decide +kernel
theorem dX9_turn_0 : decode cX9_turn 0 = .ok (.aload_n 0, 1) := by decide +kernel
theorem dX9_turn_1 : decode cX9_turn 1 = .ok (.iload_n 1, 1) := by decide +kernel
theorem dX9_turn_2 : decode cX9_turn 2 = .ok (.invokevirtual 146, 3) := by decide +kernel
theorem dX9_turn_5 : decode cX9_turn 5 = .ok (.ifCond .ne 5, 3) := by decide +kernel
theorem dX9_turn_8 : decode cX9_turn 8 = .ok (.iconst (-1), 1) := by decide +kernel
theorem dX9_turn_9 : decode cX9_turn 9 = .ok (.ireturn, 1) := by decide +kernel
theorem dX9_turn_10 : decode cX9_turn 10 = .ok (.aload_n 0, 1) := by decide +kernel
theorem dX9_turn_11 : decode cX9_turn 11 = .ok (.iload_n 1, 1) := by decide +kernel
theorem dX9_turn_12 : decode cX9_turn 12 = .ok (.iconst 2, 1) := by decide +kernel
theorem dX9_turn_13 : decode cX9_turn 13 = .ok (.invokevirtual 143, 3) := by decide +kernel
theorem dX9_turn_16 : decode cX9_turn 16 = .ok (.istore_n 2, 1) := by decide +kernel
theorem dX9_turn_17 : decode cX9_turn 17 = .ok (.bipush (-4), 2) := by decide +kernel
theorem dX9_turn_19 : decode cX9_turn 19 = .ok (.istore_n 3, 1) := by decide +kernel
theorem dX9_turn_20 : decode cX9_turn 20 = .ok (.iconst 0, 1) := by decide +kernel
theorem dX9_turn_21 : decode cX9_turn 21 = .ok (.istore 4, 2) := by decide +kernel
theorem dX9_turn_23 : decode cX9_turn 23 = .ok (.iload 4, 2) := by decide +kernel
theorem dX9_turn_25 : decode cX9_turn 25 = .ok (.aload_n 0, 1) := by decide +kernel
theorem dX9_turn_26 : decode cX9_turn 26 = .ok (.iload_n 1, 1) := by decide +kernel
theorem dX9_turn_27 : decode cX9_turn 27 = .ok (.iconst 1, 1) := by decide +kernel
theorem dX9_turn_28 : decode cX9_turn 28 = .ok (.invokevirtual 143, 3) := by decide +kernel
theorem dX9_turn_31 : decode cX9_turn 31 = .ok (.if_icmp .ge 58, 3) := by decide +kernel
theorem dX9_turn_34 : decode cX9_turn 34 = .ok (.iload_n 3, 1) := by decide +kernel
theorem dX9_turn_35 : decode cX9_turn 35 = .ok (.bipush (-4), 2) := by decide +kernel
theorem dX9_turn_37 : decode cX9_turn 37 = .ok (.if_icmp .ne 52, 3) := by decide +kernel
theorem dX9_turn_40 : decode cX9_turn 40 = .ok (.iload_n 2, 1) := by decide +kernel
theorem dX9_turn_41 : decode cX9_turn 41 = .ok (.iload 4, 2) := by decide +kernel
theorem dX9_turn_43 : decode cX9_turn 43 = .ok (.iadd, 1) := by decide +kernel
theorem dX9_turn_44 : decode cX9_turn 44 = .ok (.aload_n 0, 1) := by decide +kernel
theorem dX9_turn_45 : decode cX9_turn 45 = .ok (.iload_n 1, 1) := by decide +kernel
theorem dX9_turn_46 : decode cX9_turn 46 = .ok (.iconst 1, 1) := by decide +kernel
theorem dX9_turn_47 : decode cX9_turn 47 = .ok (.invokevirtual 143, 3) := by decide +kernel
theorem dX9_turn_50 : decode cX9_turn 50 = .ok (.irem, 1) := by decide +kernel
theorem dX9_turn_51 : decode cX9_turn 51 = .ok (.istore 5, 2) := by decide +kernel
theorem dX9_turn_53 : decode cX9_turn 53 = .ok (.aload_n 0, 1) := by decide +kernel
theorem dX9_turn_54 : decode cX9_turn 54 = .ok (.getfield 7, 3) := by decide +kernel
theorem dX9_turn_57 : decode cX9_turn 57 = .ok (.iconst 1, 1) := by decide +kernel
theorem dX9_turn_58 : decode cX9_turn 58 = .ok (.bipush 6, 2) := by decide +kernel
theorem dX9_turn_60 : decode cX9_turn 60 = .ok (.iload_n 1, 1) := by decide +kernel
theorem dX9_turn_61 : decode cX9_turn 61 = .ok (.imul, 1) := by decide +kernel
theorem dX9_turn_62 : decode cX9_turn 62 = .ok (.iadd, 1) := by decide +kernel
theorem dX9_turn_63 : decode cX9_turn 63 = .ok (.iconst 2, 1) := by decide +kernel
theorem dX9_turn_64 : decode cX9_turn 64 = .ok (.iadd, 1) := by decide +kernel
theorem dX9_turn_65 : decode cX9_turn 65 = .ok (.iload 5, 2) := by decide +kernel
theorem dX9_turn_67 : decode cX9_turn 67 = .ok (.iastore, 1) := by decide +kernel
theorem dX9_turn_68 : decode cX9_turn 68 = .ok (.aload_n 0, 1) := by decide +kernel
theorem dX9_turn_69 : decode cX9_turn 69 = .ok (.iload_n 1, 1) := by decide +kernel
theorem dX9_turn_70 : decode cX9_turn 70 = .ok (.invokevirtual 245, 3) := by decide +kernel
theorem dX9_turn_73 : decode cX9_turn 73 = .ok (.ifCond .ne 8, 3) := by decide +kernel
theorem dX9_turn_76 : decode cX9_turn 76 = .ok (.iload 5, 2) := by decide +kernel
theorem dX9_turn_78 : decode cX9_turn 78 = .ok (.goto 4, 3) := by decide +kernel
theorem dX9_turn_81 : decode cX9_turn 81 = .ok (.iload_n 3, 1) := by decide +kernel
theorem dX9_turn_82 : decode cX9_turn 82 = .ok (.istore_n 3, 1) := by decide +kernel
theorem dX9_turn_83 : decode cX9_turn 83 = .ok (.iinc 4 1, 3) := by decide +kernel
theorem dX9_turn_86 : decode cX9_turn 86 = .ok (.goto (-63), 3) := by decide +kernel
theorem dX9_turn_89 : decode cX9_turn 89 = .ok (.aload_n 0, 1) := by decide +kernel
theorem dX9_turn_90 : decode cX9_turn 90 = .ok (.getfield 7, 3) := by decide +kernel
theorem dX9_turn_93 : decode cX9_turn 93 = .ok (.iconst 1, 1) := by decide +kernel
theorem dX9_turn_94 : decode cX9_turn 94 = .ok (.bipush 6, 2) := by decide +kernel
theorem dX9_turn_96 : decode cX9_turn 96 = .ok (.iload_n 1, 1) := by decide +kernel
theorem dX9_turn_97 : decode cX9_turn 97 = .ok (.imul, 1) := by decide +kernel
theorem dX9_turn_98 : decode cX9_turn 98 = .ok (.iadd, 1) := by decide +kernel
theorem dX9_turn_99 : decode cX9_turn 99 = .ok (.iconst 2, 1) := by decide +kernel
theorem dX9_turn_100 : decode cX9_turn 100 = .ok (.iadd, 1) := by decide +kernel
theorem dX9_turn_101 : decode cX9_turn 101 = .ok (.iload_n 2, 1) := by decide +kernel
theorem dX9_turn_102 : decode cX9_turn 102 = .ok (.iastore, 1) := by decide +kernel
theorem dX9_turn_103 : decode cX9_turn 103 = .ok (.iload_n 3, 1) := by decide +kernel
theorem dX9_turn_104 : decode cX9_turn 104 = .ok (.ireturn, 1) := by decide +kernel
theorem dX9_recut_0 : decode cX9_recut 0 = .ok (.aload_n 0, 1) := by decide +kernel
theorem dX9_recut_1 : decode cX9_recut 1 = .ok (.iload_n 1, 1) := by decide +kernel
theorem dX9_recut_2 : decode cX9_recut 2 = .ok (.invokevirtual 146, 3) := by decide +kernel
theorem dX9_recut_5 : decode cX9_recut 5 = .ok (.ifCond .eq 25, 3) := by decide +kernel
theorem dX9_recut_8 : decode cX9_recut 8 = .ok (.aload_n 0, 1) := by decide +kernel
theorem dX9_recut_9 : decode cX9_recut 9 = .ok (.iload_n 1, 1) := by decide +kernel
theorem dX9_recut_10 : decode cX9_recut 10 = .ok (.iload_n 2, 1) := by decide +kernel
theorem dX9_recut_11 : decode cX9_recut 11 = .ok (.invokevirtual 285, 3) := by decide +kernel
theorem dX9_recut_14 : decode cX9_recut 14 = .ok (.ifCond .eq 16, 3) := by decide +kernel
theorem dX9_recut_17 : decode cX9_recut 17 = .ok (.iload_n 3, 1) := by decide +kernel
theorem dX9_recut_18 : decode cX9_recut 18 = .ok (.i2l, 1) := by decide +kernel
theorem dX9_recut_19 : decode cX9_recut 19 = .ok (.lconst 0, 1) := by decide +kernel
theorem dX9_recut_20 : decode cX9_recut 20 = .ok (.iload_n 2, 1) := by decide +kernel
theorem dX9_recut_21 : decode cX9_recut 21 = .ok (.iconst 1, 1) := by decide +kernel
theorem dX9_recut_22 : decode cX9_recut 22 = .ok (.isub, 1) := by decide +kernel
theorem dX9_recut_23 : decode cX9_recut 23 = .ok (.i2l, 1) := by decide +kernel
theorem dX9_recut_24 : decode cX9_recut 24 = .ok (.invokestatic 71, 3) := by decide +kernel
theorem dX9_recut_27 : decode cX9_recut 27 = .ok (.ifCond .ne 5, 3) := by decide +kernel
theorem dX9_recut_30 : decode cX9_recut 30 = .ok (.iconst (-1), 1) := by decide +kernel
theorem dX9_recut_31 : decode cX9_recut 31 = .ok (.ireturn, 1) := by decide +kernel
theorem dX9_recut_32 : decode cX9_recut 32 = .ok (.aload_n 0, 1) := by decide +kernel
theorem dX9_recut_33 : decode cX9_recut 33 = .ok (.iload_n 1, 1) := by decide +kernel
theorem dX9_recut_34 : decode cX9_recut 34 = .ok (.iconst 1, 1) := by decide +kernel
theorem dX9_recut_35 : decode cX9_recut 35 = .ok (.invokevirtual 143, 3) := by decide +kernel
theorem dX9_recut_38 : decode cX9_recut 38 = .ok (.istore 4, 2) := by decide +kernel
theorem dX9_recut_40 : decode cX9_recut 40 = .ok (.aload_n 0, 1) := by decide +kernel
theorem dX9_recut_41 : decode cX9_recut 41 = .ok (.getfield 7, 3) := by decide +kernel
theorem dX9_recut_44 : decode cX9_recut 44 = .ok (.iconst 1, 1) := by decide +kernel
theorem dX9_recut_45 : decode cX9_recut 45 = .ok (.bipush 6, 2) := by decide +kernel
theorem dX9_recut_47 : decode cX9_recut 47 = .ok (.iload_n 1, 1) := by decide +kernel
theorem dX9_recut_48 : decode cX9_recut 48 = .ok (.imul, 1) := by decide +kernel
theorem dX9_recut_49 : decode cX9_recut 49 = .ok (.iadd, 1) := by decide +kernel
theorem dX9_recut_50 : decode cX9_recut 50 = .ok (.iconst 1, 1) := by decide +kernel
theorem dX9_recut_51 : decode cX9_recut 51 = .ok (.iadd, 1) := by decide +kernel
theorem dX9_recut_52 : decode cX9_recut 52 = .ok (.iload_n 2, 1) := by decide +kernel
theorem dX9_recut_53 : decode cX9_recut 53 = .ok (.iastore, 1) := by decide +kernel
theorem dX9_recut_54 : decode cX9_recut 54 = .ok (.aload_n 0, 1) := by decide +kernel
theorem dX9_recut_55 : decode cX9_recut 55 = .ok (.getfield 7, 3) := by decide +kernel
theorem dX9_recut_58 : decode cX9_recut 58 = .ok (.iconst 1, 1) := by decide +kernel
theorem dX9_recut_59 : decode cX9_recut 59 = .ok (.bipush 6, 2) := by decide +kernel
theorem dX9_recut_61 : decode cX9_recut 61 = .ok (.iload_n 1, 1) := by decide +kernel
theorem dX9_recut_62 : decode cX9_recut 62 = .ok (.imul, 1) := by decide +kernel
theorem dX9_recut_63 : decode cX9_recut 63 = .ok (.iadd, 1) := by decide +kernel
theorem dX9_recut_64 : decode cX9_recut 64 = .ok (.iconst 2, 1) := by decide +kernel
theorem dX9_recut_65 : decode cX9_recut 65 = .ok (.iadd, 1) := by decide +kernel
theorem dX9_recut_66 : decode cX9_recut 66 = .ok (.iload_n 3, 1) := by decide +kernel
theorem dX9_recut_67 : decode cX9_recut 67 = .ok (.iastore, 1) := by decide +kernel
theorem dX9_recut_68 : decode cX9_recut 68 = .ok (.iload 4, 2) := by decide +kernel
theorem dX9_recut_70 : decode cX9_recut 70 = .ok (.ireturn, 1) := by decide +kernel
theorem dX9_mend_0 : decode cX9_mend 0 = .ok (.iload_n 1, 1) := by decide +kernel
theorem dX9_mend_1 : decode cX9_mend 1 = .ok (.i2l, 1) := by decide +kernel
theorem dX9_mend_2 : decode cX9_mend 2 = .ok (.lconst 0, 1) := by decide +kernel
theorem dX9_mend_3 : decode cX9_mend 3 = .ok (.lconst 1, 1) := by decide +kernel
theorem dX9_mend_4 : decode cX9_mend 4 = .ok (.invokestatic 71, 3) := by decide +kernel
theorem dX9_mend_7 : decode cX9_mend 7 = .ok (.ifCond .ne 5, 3) := by decide +kernel
theorem dX9_mend_10 : decode cX9_mend 10 = .ok (.iconst (-1), 1) := by decide +kernel
theorem dX9_mend_11 : decode cX9_mend 11 = .ok (.ireturn, 1) := by decide +kernel
theorem dX9_mend_12 : decode cX9_mend 12 = .ok (.iconst 0, 1) := by decide +kernel
theorem dX9_mend_13 : decode cX9_mend 13 = .ok (.istore_n 2, 1) := by decide +kernel
theorem dX9_mend_14 : decode cX9_mend 14 = .ok (.iload_n 2, 1) := by decide +kernel
theorem dX9_mend_15 : decode cX9_mend 15 = .ok (.aload_n 0, 1) := by decide +kernel
theorem dX9_mend_16 : decode cX9_mend 16 = .ok (.getfield 7, 3) := by decide +kernel
theorem dX9_mend_19 : decode cX9_mend 19 = .ok (.iconst 0, 1) := by decide +kernel
theorem dX9_mend_20 : decode cX9_mend 20 = .ok (.iaload, 1) := by decide +kernel
theorem dX9_mend_21 : decode cX9_mend 21 = .ok (.if_icmp .ge 39, 3) := by decide +kernel
theorem dX9_mend_24 : decode cX9_mend 24 = .ok (.aload_n 0, 1) := by decide +kernel
theorem dX9_mend_25 : decode cX9_mend 25 = .ok (.getfield 31, 3) := by decide +kernel
theorem dX9_mend_28 : decode cX9_mend 28 = .ok (.iconst 2, 1) := by decide +kernel
theorem dX9_mend_29 : decode cX9_mend 29 = .ok (.iload_n 2, 1) := by decide +kernel
theorem dX9_mend_30 : decode cX9_mend 30 = .ok (.imul, 1) := by decide +kernel
theorem dX9_mend_31 : decode cX9_mend 31 = .ok (.aload_n 0, 1) := by decide +kernel
theorem dX9_mend_32 : decode cX9_mend 32 = .ok (.iload_n 2, 1) := by decide +kernel
theorem dX9_mend_33 : decode cX9_mend 33 = .ok (.iconst 1, 1) := by decide +kernel
theorem dX9_mend_34 : decode cX9_mend 34 = .ok (.invokevirtual 143, 3) := by decide +kernel
theorem dX9_mend_37 : decode cX9_mend 37 = .ok (.iastore, 1) := by decide +kernel
theorem dX9_mend_38 : decode cX9_mend 38 = .ok (.aload_n 0, 1) := by decide +kernel
theorem dX9_mend_39 : decode cX9_mend 39 = .ok (.getfield 31, 3) := by decide +kernel
theorem dX9_mend_42 : decode cX9_mend 42 = .ok (.iconst 2, 1) := by decide +kernel
theorem dX9_mend_43 : decode cX9_mend 43 = .ok (.iload_n 2, 1) := by decide +kernel
theorem dX9_mend_44 : decode cX9_mend 44 = .ok (.imul, 1) := by decide +kernel
theorem dX9_mend_45 : decode cX9_mend 45 = .ok (.iconst 1, 1) := by decide +kernel
theorem dX9_mend_46 : decode cX9_mend 46 = .ok (.iadd, 1) := by decide +kernel
theorem dX9_mend_47 : decode cX9_mend 47 = .ok (.aload_n 0, 1) := by decide +kernel
theorem dX9_mend_48 : decode cX9_mend 48 = .ok (.iload_n 2, 1) := by decide +kernel
theorem dX9_mend_49 : decode cX9_mend 49 = .ok (.iconst 2, 1) := by decide +kernel
theorem dX9_mend_50 : decode cX9_mend 50 = .ok (.invokevirtual 143, 3) := by decide +kernel
theorem dX9_mend_53 : decode cX9_mend 53 = .ok (.iastore, 1) := by decide +kernel
theorem dX9_mend_54 : decode cX9_mend 54 = .ok (.iinc 2 1, 3) := by decide +kernel
theorem dX9_mend_57 : decode cX9_mend 57 = .ok (.goto (-43), 3) := by decide +kernel
theorem dX9_mend_60 : decode cX9_mend 60 = .ok (.iconst 0, 1) := by decide +kernel
theorem dX9_mend_61 : decode cX9_mend 61 = .ok (.istore_n 2, 1) := by decide +kernel
theorem dX9_mend_62 : decode cX9_mend 62 = .ok (.iconst 0, 1) := by decide +kernel
theorem dX9_mend_63 : decode cX9_mend 63 = .ok (.istore_n 3, 1) := by decide +kernel
theorem dX9_mend_64 : decode cX9_mend 64 = .ok (.iload_n 3, 1) := by decide +kernel
theorem dX9_mend_65 : decode cX9_mend 65 = .ok (.aload_n 0, 1) := by decide +kernel
theorem dX9_mend_66 : decode cX9_mend 66 = .ok (.getfield 7, 3) := by decide +kernel
theorem dX9_mend_69 : decode cX9_mend 69 = .ok (.iconst 0, 1) := by decide +kernel
theorem dX9_mend_70 : decode cX9_mend 70 = .ok (.iaload, 1) := by decide +kernel
theorem dX9_mend_71 : decode cX9_mend 71 = .ok (.if_icmp .ge 62, 3) := by decide +kernel
theorem dX9_mend_74 : decode cX9_mend 74 = .ok (.aload_n 0, 1) := by decide +kernel
theorem dX9_mend_75 : decode cX9_mend 75 = .ok (.iload_n 3, 1) := by decide +kernel
theorem dX9_mend_76 : decode cX9_mend 76 = .ok (.invokevirtual 245, 3) := by decide +kernel
theorem dX9_mend_79 : decode cX9_mend 79 = .ok (.ifCond .eq 48, 3) := by decide +kernel
theorem dX9_mend_82 : decode cX9_mend 82 = .ok (.aload_n 0, 1) := by decide +kernel
theorem dX9_mend_83 : decode cX9_mend 83 = .ok (.iload_n 3, 1) := by decide +kernel
theorem dX9_mend_84 : decode cX9_mend 84 = .ok (.invokevirtual 294, 3) := by decide +kernel
theorem dX9_mend_87 : decode cX9_mend 87 = .ok (.ifCond .eq 40, 3) := by decide +kernel
theorem dX9_mend_90 : decode cX9_mend 90 = .ok (.aload_n 0, 1) := by decide +kernel
theorem dX9_mend_91 : decode cX9_mend 91 = .ok (.getfield 7, 3) := by decide +kernel
theorem dX9_mend_94 : decode cX9_mend 94 = .ok (.iconst 1, 1) := by decide +kernel
theorem dX9_mend_95 : decode cX9_mend 95 = .ok (.bipush 6, 2) := by decide +kernel
theorem dX9_mend_97 : decode cX9_mend 97 = .ok (.iload_n 3, 1) := by decide +kernel
theorem dX9_mend_98 : decode cX9_mend 98 = .ok (.imul, 1) := by decide +kernel
theorem dX9_mend_99 : decode cX9_mend 99 = .ok (.iadd, 1) := by decide +kernel
theorem dX9_mend_100 : decode cX9_mend 100 = .ok (.iconst 1, 1) := by decide +kernel
theorem dX9_mend_101 : decode cX9_mend 101 = .ok (.iadd, 1) := by decide +kernel
theorem dX9_mend_102 : decode cX9_mend 102 = .ok (.aload_n 0, 1) := by decide +kernel
theorem dX9_mend_103 : decode cX9_mend 103 = .ok (.getfield 282, 3) := by decide +kernel
theorem dX9_mend_106 : decode cX9_mend 106 = .ok (.iastore, 1) := by decide +kernel
theorem dX9_mend_107 : decode cX9_mend 107 = .ok (.aload_n 0, 1) := by decide +kernel
theorem dX9_mend_108 : decode cX9_mend 108 = .ok (.getfield 7, 3) := by decide +kernel
theorem dX9_mend_111 : decode cX9_mend 111 = .ok (.iconst 1, 1) := by decide +kernel
theorem dX9_mend_112 : decode cX9_mend 112 = .ok (.bipush 6, 2) := by decide +kernel
theorem dX9_mend_114 : decode cX9_mend 114 = .ok (.iload_n 3, 1) := by decide +kernel
theorem dX9_mend_115 : decode cX9_mend 115 = .ok (.imul, 1) := by decide +kernel
theorem dX9_mend_116 : decode cX9_mend 116 = .ok (.iadd, 1) := by decide +kernel
theorem dX9_mend_117 : decode cX9_mend 117 = .ok (.iconst 2, 1) := by decide +kernel
theorem dX9_mend_118 : decode cX9_mend 118 = .ok (.iadd, 1) := by decide +kernel
theorem dX9_mend_119 : decode cX9_mend 119 = .ok (.aload_n 0, 1) := by decide +kernel
theorem dX9_mend_120 : decode cX9_mend 120 = .ok (.getfield 291, 3) := by decide +kernel
theorem dX9_mend_123 : decode cX9_mend 123 = .ok (.iastore, 1) := by decide +kernel
theorem dX9_mend_124 : decode cX9_mend 124 = .ok (.iinc 2 1, 3) := by decide +kernel
theorem dX9_mend_127 : decode cX9_mend 127 = .ok (.iinc 3 1, 3) := by decide +kernel
theorem dX9_mend_130 : decode cX9_mend 130 = .ok (.goto (-66), 3) := by decide +kernel
theorem dX9_mend_133 : decode cX9_mend 133 = .ok (.aload_n 0, 1) := by decide +kernel
theorem dX9_mend_134 : decode cX9_mend 134 = .ok (.invokevirtual 297, 3) := by decide +kernel
theorem dX9_mend_137 : decode cX9_mend 137 = .ok (.invokestatic 300, 3) := by decide +kernel
theorem dX9_mend_140 : decode cX9_mend 140 = .ok (.istore_n 3, 1) := by decide +kernel
theorem dX9_mend_141 : decode cX9_mend 141 = .ok (.iconst 0, 1) := by decide +kernel
theorem dX9_mend_142 : decode cX9_mend 142 = .ok (.istore 4, 2) := by decide +kernel
theorem dX9_mend_144 : decode cX9_mend 144 = .ok (.iload 4, 2) := by decide +kernel
theorem dX9_mend_146 : decode cX9_mend 146 = .ok (.aload_n 0, 1) := by decide +kernel
theorem dX9_mend_147 : decode cX9_mend 147 = .ok (.getfield 7, 3) := by decide +kernel
theorem dX9_mend_150 : decode cX9_mend 150 = .ok (.iconst 0, 1) := by decide +kernel
theorem dX9_mend_151 : decode cX9_mend 151 = .ok (.iaload, 1) := by decide +kernel
theorem dX9_mend_152 : decode cX9_mend 152 = .ok (.if_icmp .ge 57, 3) := by decide +kernel
theorem dX9_mend_155 : decode cX9_mend 155 = .ok (.aload_n 0, 1) := by decide +kernel
theorem dX9_mend_156 : decode cX9_mend 156 = .ok (.getfield 7, 3) := by decide +kernel
theorem dX9_mend_159 : decode cX9_mend 159 = .ok (.iconst 1, 1) := by decide +kernel
theorem dX9_mend_160 : decode cX9_mend 160 = .ok (.bipush 6, 2) := by decide +kernel
theorem dX9_mend_162 : decode cX9_mend 162 = .ok (.iload 4, 2) := by decide +kernel
theorem dX9_mend_164 : decode cX9_mend 164 = .ok (.imul, 1) := by decide +kernel
theorem dX9_mend_165 : decode cX9_mend 165 = .ok (.iadd, 1) := by decide +kernel
theorem dX9_mend_166 : decode cX9_mend 166 = .ok (.iconst 1, 1) := by decide +kernel
theorem dX9_mend_167 : decode cX9_mend 167 = .ok (.iadd, 1) := by decide +kernel
theorem dX9_mend_168 : decode cX9_mend 168 = .ok (.aload_n 0, 1) := by decide +kernel
theorem dX9_mend_169 : decode cX9_mend 169 = .ok (.getfield 31, 3) := by decide +kernel
theorem dX9_mend_172 : decode cX9_mend 172 = .ok (.iconst 2, 1) := by decide +kernel
theorem dX9_mend_173 : decode cX9_mend 173 = .ok (.iload 4, 2) := by decide +kernel
theorem dX9_mend_175 : decode cX9_mend 175 = .ok (.imul, 1) := by decide +kernel
theorem dX9_mend_176 : decode cX9_mend 176 = .ok (.iaload, 1) := by decide +kernel
theorem dX9_mend_177 : decode cX9_mend 177 = .ok (.iastore, 1) := by decide +kernel
theorem dX9_mend_178 : decode cX9_mend 178 = .ok (.aload_n 0, 1) := by decide +kernel
theorem dX9_mend_179 : decode cX9_mend 179 = .ok (.getfield 7, 3) := by decide +kernel
theorem dX9_mend_182 : decode cX9_mend 182 = .ok (.iconst 1, 1) := by decide +kernel
theorem dX9_mend_183 : decode cX9_mend 183 = .ok (.bipush 6, 2) := by decide +kernel
theorem dX9_mend_185 : decode cX9_mend 185 = .ok (.iload 4, 2) := by decide +kernel
theorem dX9_mend_187 : decode cX9_mend 187 = .ok (.imul, 1) := by decide +kernel
theorem dX9_mend_188 : decode cX9_mend 188 = .ok (.iadd, 1) := by decide +kernel
theorem dX9_mend_189 : decode cX9_mend 189 = .ok (.iconst 2, 1) := by decide +kernel
theorem dX9_mend_190 : decode cX9_mend 190 = .ok (.iadd, 1) := by decide +kernel
theorem dX9_mend_191 : decode cX9_mend 191 = .ok (.aload_n 0, 1) := by decide +kernel
theorem dX9_mend_192 : decode cX9_mend 192 = .ok (.getfield 31, 3) := by decide +kernel
theorem dX9_mend_195 : decode cX9_mend 195 = .ok (.iconst 2, 1) := by decide +kernel
theorem dX9_mend_196 : decode cX9_mend 196 = .ok (.iload 4, 2) := by decide +kernel
theorem dX9_mend_198 : decode cX9_mend 198 = .ok (.imul, 1) := by decide +kernel
theorem dX9_mend_199 : decode cX9_mend 199 = .ok (.iconst 1, 1) := by decide +kernel
theorem dX9_mend_200 : decode cX9_mend 200 = .ok (.iadd, 1) := by decide +kernel
theorem dX9_mend_201 : decode cX9_mend 201 = .ok (.iaload, 1) := by decide +kernel
theorem dX9_mend_202 : decode cX9_mend 202 = .ok (.iastore, 1) := by decide +kernel
theorem dX9_mend_203 : decode cX9_mend 203 = .ok (.iinc 4 1, 3) := by decide +kernel
theorem dX9_mend_206 : decode cX9_mend 206 = .ok (.goto (-62), 3) := by decide +kernel
theorem dX9_mend_209 : decode cX9_mend 209 = .ok (.iload_n 1, 1) := by decide +kernel
theorem dX9_mend_210 : decode cX9_mend 210 = .ok (.ifCond .ne 7, 3) := by decide +kernel
theorem dX9_mend_213 : decode cX9_mend 213 = .ok (.iload_n 2, 1) := by decide +kernel
theorem dX9_mend_214 : decode cX9_mend 214 = .ok (.goto 4, 3) := by decide +kernel
theorem dX9_mend_217 : decode cX9_mend 217 = .ok (.iload_n 3, 1) := by decide +kernel
theorem dX9_mend_218 : decode cX9_mend 218 = .ok (.ireturn, 1) := by decide +kernel
theorem dX9_hold_0 : decode cX9_hold 0 = .ok (.iload_n 1, 1) := by decide +kernel
theorem dX9_hold_1 : decode cX9_hold 1 = .ok (.i2l, 1) := by decide +kernel
theorem dX9_hold_2 : decode cX9_hold 2 = .ok (.lconst 0, 1) := by decide +kernel
theorem dX9_hold_3 : decode cX9_hold 3 = .ok (.aload_n 0, 1) := by decide +kernel
theorem dX9_hold_4 : decode cX9_hold 4 = .ok (.getfield 7, 3) := by decide +kernel
theorem dX9_hold_7 : decode cX9_hold 7 = .ok (.bipush 37, 2) := by decide +kernel
theorem dX9_hold_9 : decode cX9_hold 9 = .ok (.iaload, 1) := by decide +kernel
theorem dX9_hold_10 : decode cX9_hold 10 = .ok (.i2l, 1) := by decide +kernel
theorem dX9_hold_11 : decode cX9_hold 11 = .ok (.invokestatic 71, 3) := by decide +kernel
theorem dX9_hold_14 : decode cX9_hold 14 = .ok (.ifCond .ne 5, 3) := by decide +kernel
theorem dX9_hold_17 : decode cX9_hold 17 = .ok (.iconst (-1), 1) := by decide +kernel
theorem dX9_hold_18 : decode cX9_hold 18 = .ok (.ireturn, 1) := by decide +kernel
theorem dX9_hold_19 : decode cX9_hold 19 = .ok (.iconst 0, 1) := by decide +kernel
theorem dX9_hold_20 : decode cX9_hold 20 = .ok (.istore_n 2, 1) := by decide +kernel
theorem dX9_hold_21 : decode cX9_hold 21 = .ok (.iload_n 2, 1) := by decide +kernel
theorem dX9_hold_22 : decode cX9_hold 22 = .ok (.iload_n 1, 1) := by decide +kernel
theorem dX9_hold_23 : decode cX9_hold 23 = .ok (.if_icmp .ge 114, 3) := by decide +kernel
theorem dX9_hold_26 : decode cX9_hold 26 = .ok (.bipush 38, 2) := by decide +kernel
theorem dX9_hold_28 : decode cX9_hold 28 = .ok (.iconst 5, 1) := by decide +kernel
theorem dX9_hold_29 : decode cX9_hold 29 = .ok (.iload_n 2, 1) := by decide +kernel
theorem dX9_hold_30 : decode cX9_hold 30 = .ok (.imul, 1) := by decide +kernel
theorem dX9_hold_31 : decode cX9_hold 31 = .ok (.iadd, 1) := by decide +kernel
theorem dX9_hold_32 : decode cX9_hold 32 = .ok (.istore_n 3, 1) := by decide +kernel
theorem dX9_hold_33 : decode cX9_hold 33 = .ok (.iconst 1, 1) := by decide +kernel
theorem dX9_hold_34 : decode cX9_hold 34 = .ok (.bipush 6, 2) := by decide +kernel
theorem dX9_hold_36 : decode cX9_hold 36 = .ok (.aload_n 0, 1) := by decide +kernel
theorem dX9_hold_37 : decode cX9_hold 37 = .ok (.getfield 7, 3) := by decide +kernel
theorem dX9_hold_40 : decode cX9_hold 40 = .ok (.iload_n 3, 1) := by decide +kernel
theorem dX9_hold_41 : decode cX9_hold 41 = .ok (.iconst 1, 1) := by decide +kernel
theorem dX9_hold_42 : decode cX9_hold 42 = .ok (.iadd, 1) := by decide +kernel
theorem dX9_hold_43 : decode cX9_hold 43 = .ok (.iaload, 1) := by decide +kernel
theorem dX9_hold_44 : decode cX9_hold 44 = .ok (.imul, 1) := by decide +kernel
theorem dX9_hold_45 : decode cX9_hold 45 = .ok (.iadd, 1) := by decide +kernel
theorem dX9_hold_46 : decode cX9_hold 46 = .ok (.istore 4, 2) := by decide +kernel
theorem dX9_hold_48 : decode cX9_hold 48 = .ok (.aload_n 0, 1) := by decide +kernel
theorem dX9_hold_49 : decode cX9_hold 49 = .ok (.getfield 7, 3) := by decide +kernel
theorem dX9_hold_52 : decode cX9_hold 52 = .ok (.iload 4, 2) := by decide +kernel
theorem dX9_hold_54 : decode cX9_hold 54 = .ok (.iconst 0, 1) := by decide +kernel
theorem dX9_hold_55 : decode cX9_hold 55 = .ok (.iadd, 1) := by decide +kernel
theorem dX9_hold_56 : decode cX9_hold 56 = .ok (.iconst 0, 1) := by decide +kernel
theorem dX9_hold_57 : decode cX9_hold 57 = .ok (.iastore, 1) := by decide +kernel
theorem dX9_hold_58 : decode cX9_hold 58 = .ok (.aload_n 0, 1) := by decide +kernel
theorem dX9_hold_59 : decode cX9_hold 59 = .ok (.getfield 7, 3) := by decide +kernel
theorem dX9_hold_62 : decode cX9_hold 62 = .ok (.iload 4, 2) := by decide +kernel
theorem dX9_hold_64 : decode cX9_hold 64 = .ok (.iconst 1, 1) := by decide +kernel
theorem dX9_hold_65 : decode cX9_hold 65 = .ok (.iadd, 1) := by decide +kernel
theorem dX9_hold_66 : decode cX9_hold 66 = .ok (.aload_n 0, 1) := by decide +kernel
theorem dX9_hold_67 : decode cX9_hold 67 = .ok (.getfield 7, 3) := by decide +kernel
theorem dX9_hold_70 : decode cX9_hold 70 = .ok (.iload_n 3, 1) := by decide +kernel
theorem dX9_hold_71 : decode cX9_hold 71 = .ok (.iconst 2, 1) := by decide +kernel
theorem dX9_hold_72 : decode cX9_hold 72 = .ok (.iadd, 1) := by decide +kernel
theorem dX9_hold_73 : decode cX9_hold 73 = .ok (.iaload, 1) := by decide +kernel
theorem dX9_hold_74 : decode cX9_hold 74 = .ok (.iastore, 1) := by decide +kernel
theorem dX9_hold_75 : decode cX9_hold 75 = .ok (.aload_n 0, 1) := by decide +kernel
theorem dX9_hold_76 : decode cX9_hold 76 = .ok (.getfield 7, 3) := by decide +kernel
theorem dX9_hold_79 : decode cX9_hold 79 = .ok (.iload 4, 2) := by decide +kernel
theorem dX9_hold_81 : decode cX9_hold 81 = .ok (.iconst 2, 1) := by decide +kernel
theorem dX9_hold_82 : decode cX9_hold 82 = .ok (.iadd, 1) := by decide +kernel
theorem dX9_hold_83 : decode cX9_hold 83 = .ok (.aload_n 0, 1) := by decide +kernel
theorem dX9_hold_84 : decode cX9_hold 84 = .ok (.getfield 7, 3) := by decide +kernel
theorem dX9_hold_87 : decode cX9_hold 87 = .ok (.iload_n 3, 1) := by decide +kernel
theorem dX9_hold_88 : decode cX9_hold 88 = .ok (.iconst 3, 1) := by decide +kernel
theorem dX9_hold_89 : decode cX9_hold 89 = .ok (.iadd, 1) := by decide +kernel
theorem dX9_hold_90 : decode cX9_hold 90 = .ok (.iaload, 1) := by decide +kernel
theorem dX9_hold_91 : decode cX9_hold 91 = .ok (.iastore, 1) := by decide +kernel
theorem dX9_hold_92 : decode cX9_hold 92 = .ok (.aload_n 0, 1) := by decide +kernel
theorem dX9_hold_93 : decode cX9_hold 93 = .ok (.getfield 7, 3) := by decide +kernel
theorem dX9_hold_96 : decode cX9_hold 96 = .ok (.iload 4, 2) := by decide +kernel
theorem dX9_hold_98 : decode cX9_hold 98 = .ok (.iconst 3, 1) := by decide +kernel
theorem dX9_hold_99 : decode cX9_hold 99 = .ok (.iadd, 1) := by decide +kernel
theorem dX9_hold_100 : decode cX9_hold 100 = .ok (.aload_n 0, 1) := by decide +kernel
theorem dX9_hold_101 : decode cX9_hold 101 = .ok (.getfield 7, 3) := by decide +kernel
theorem dX9_hold_104 : decode cX9_hold 104 = .ok (.iload_n 3, 1) := by decide +kernel
theorem dX9_hold_105 : decode cX9_hold 105 = .ok (.iconst 4, 1) := by decide +kernel
theorem dX9_hold_106 : decode cX9_hold 106 = .ok (.iadd, 1) := by decide +kernel
theorem dX9_hold_107 : decode cX9_hold 107 = .ok (.iaload, 1) := by decide +kernel
theorem dX9_hold_108 : decode cX9_hold 108 = .ok (.iastore, 1) := by decide +kernel
theorem dX9_hold_109 : decode cX9_hold 109 = .ok (.aload_n 0, 1) := by decide +kernel
theorem dX9_hold_110 : decode cX9_hold 110 = .ok (.getfield 7, 3) := by decide +kernel
theorem dX9_hold_113 : decode cX9_hold 113 = .ok (.iload 4, 2) := by decide +kernel
theorem dX9_hold_115 : decode cX9_hold 115 = .ok (.iconst 4, 1) := by decide +kernel
theorem dX9_hold_116 : decode cX9_hold 116 = .ok (.iadd, 1) := by decide +kernel
theorem dX9_hold_117 : decode cX9_hold 117 = .ok (.bipush (-4), 2) := by decide +kernel
theorem dX9_hold_119 : decode cX9_hold 119 = .ok (.iastore, 1) := by decide +kernel
theorem dX9_hold_120 : decode cX9_hold 120 = .ok (.aload_n 0, 1) := by decide +kernel
theorem dX9_hold_121 : decode cX9_hold 121 = .ok (.getfield 7, 3) := by decide +kernel
theorem dX9_hold_124 : decode cX9_hold 124 = .ok (.iload 4, 2) := by decide +kernel
theorem dX9_hold_126 : decode cX9_hold 126 = .ok (.iconst 5, 1) := by decide +kernel
theorem dX9_hold_127 : decode cX9_hold 127 = .ok (.iadd, 1) := by decide +kernel
theorem dX9_hold_128 : decode cX9_hold 128 = .ok (.bipush (-4), 2) := by decide +kernel
theorem dX9_hold_130 : decode cX9_hold 130 = .ok (.iastore, 1) := by decide +kernel
theorem dX9_hold_131 : decode cX9_hold 131 = .ok (.iinc 2 1, 3) := by decide +kernel
theorem dX9_hold_134 : decode cX9_hold 134 = .ok (.goto (-113), 3) := by decide +kernel
theorem dX9_hold_137 : decode cX9_hold 137 = .ok (.aload_n 0, 1) := by decide +kernel
theorem dX9_hold_138 : decode cX9_hold 138 = .ok (.getfield 7, 3) := by decide +kernel
theorem dX9_hold_141 : decode cX9_hold 141 = .ok (.bipush 37, 2) := by decide +kernel
theorem dX9_hold_143 : decode cX9_hold 143 = .ok (.dup2, 1) := by decide +kernel
theorem dX9_hold_144 : decode cX9_hold 144 = .ok (.iaload, 1) := by decide +kernel
theorem dX9_hold_145 : decode cX9_hold 145 = .ok (.iload_n 1, 1) := by decide +kernel
theorem dX9_hold_146 : decode cX9_hold 146 = .ok (.isub, 1) := by decide +kernel
theorem dX9_hold_147 : decode cX9_hold 147 = .ok (.iastore, 1) := by decide +kernel
theorem dX9_hold_148 : decode cX9_hold 148 = .ok (.iconst 0, 1) := by decide +kernel
theorem dX9_hold_149 : decode cX9_hold 149 = .ok (.istore_n 2, 1) := by decide +kernel
theorem dX9_hold_150 : decode cX9_hold 150 = .ok (.iload_n 2, 1) := by decide +kernel
theorem dX9_hold_151 : decode cX9_hold 151 = .ok (.iconst 5, 1) := by decide +kernel
theorem dX9_hold_152 : decode cX9_hold 152 = .ok (.aload_n 0, 1) := by decide +kernel
theorem dX9_hold_153 : decode cX9_hold 153 = .ok (.getfield 7, 3) := by decide +kernel
theorem dX9_hold_156 : decode cX9_hold 156 = .ok (.bipush 37, 2) := by decide +kernel
theorem dX9_hold_158 : decode cX9_hold 158 = .ok (.iaload, 1) := by decide +kernel
theorem dX9_hold_159 : decode cX9_hold 159 = .ok (.imul, 1) := by decide +kernel
theorem dX9_hold_160 : decode cX9_hold 160 = .ok (.if_icmp .ge 31, 3) := by decide +kernel
theorem dX9_hold_163 : decode cX9_hold 163 = .ok (.aload_n 0, 1) := by decide +kernel
theorem dX9_hold_164 : decode cX9_hold 164 = .ok (.getfield 7, 3) := by decide +kernel
theorem dX9_hold_167 : decode cX9_hold 167 = .ok (.bipush 38, 2) := by decide +kernel
theorem dX9_hold_169 : decode cX9_hold 169 = .ok (.iload_n 2, 1) := by decide +kernel
theorem dX9_hold_170 : decode cX9_hold 170 = .ok (.iadd, 1) := by decide +kernel
theorem dX9_hold_171 : decode cX9_hold 171 = .ok (.aload_n 0, 1) := by decide +kernel
theorem dX9_hold_172 : decode cX9_hold 172 = .ok (.getfield 7, 3) := by decide +kernel
theorem dX9_hold_175 : decode cX9_hold 175 = .ok (.bipush 38, 2) := by decide +kernel
theorem dX9_hold_177 : decode cX9_hold 177 = .ok (.iconst 5, 1) := by decide +kernel
theorem dX9_hold_178 : decode cX9_hold 178 = .ok (.iload_n 1, 1) := by decide +kernel
theorem dX9_hold_179 : decode cX9_hold 179 = .ok (.imul, 1) := by decide +kernel
theorem dX9_hold_180 : decode cX9_hold 180 = .ok (.iadd, 1) := by decide +kernel
theorem dX9_hold_181 : decode cX9_hold 181 = .ok (.iload_n 2, 1) := by decide +kernel
theorem dX9_hold_182 : decode cX9_hold 182 = .ok (.iadd, 1) := by decide +kernel
theorem dX9_hold_183 : decode cX9_hold 183 = .ok (.iaload, 1) := by decide +kernel
theorem dX9_hold_184 : decode cX9_hold 184 = .ok (.iastore, 1) := by decide +kernel
theorem dX9_hold_185 : decode cX9_hold 185 = .ok (.iinc 2 1, 3) := by decide +kernel
theorem dX9_hold_188 : decode cX9_hold 188 = .ok (.goto (-38), 3) := by decide +kernel
theorem dX9_hold_191 : decode cX9_hold 191 = .ok (.aload_n 0, 1) := by decide +kernel
theorem dX9_hold_192 : decode cX9_hold 192 = .ok (.invokevirtual 297, 3) := by decide +kernel
theorem dX9_hold_195 : decode cX9_hold 195 = .ok (.invokestatic 300, 3) := by decide +kernel
theorem dX9_hold_198 : decode cX9_hold 198 = .ok (.ireturn, 1) := by decide +kernel
theorem dX9_ask_0 : decode cX9_ask 0 = .ok (.aload_n 0, 1) := by decide +kernel
theorem dX9_ask_1 : decode cX9_ask 1 = .ok (.getfield 7, 3) := by decide +kernel
theorem dX9_ask_4 : decode cX9_ask 4 = .ok (.bipush 37, 2) := by decide +kernel
theorem dX9_ask_6 : decode cX9_ask 6 = .ok (.iaload, 1) := by decide +kernel
theorem dX9_ask_7 : decode cX9_ask 7 = .ok (.istore 6, 2) := by decide +kernel
theorem dX9_ask_9 : decode cX9_ask 9 = .ok (.bipush 38, 2) := by decide +kernel
theorem dX9_ask_11 : decode cX9_ask 11 = .ok (.iconst 5, 1) := by decide +kernel
theorem dX9_ask_12 : decode cX9_ask 12 = .ok (.iload 6, 2) := by decide +kernel
theorem dX9_ask_14 : decode cX9_ask 14 = .ok (.imul, 1) := by decide +kernel
theorem dX9_ask_15 : decode cX9_ask 15 = .ok (.iadd, 1) := by decide +kernel
theorem dX9_ask_16 : decode cX9_ask 16 = .ok (.istore 7, 2) := by decide +kernel
theorem dX9_ask_18 : decode cX9_ask 18 = .ok (.iload_n 1, 1) := by decide +kernel
theorem dX9_ask_19 : decode cX9_ask 19 = .ok (.i2l, 1) := by decide +kernel
theorem dX9_ask_20 : decode cX9_ask 20 = .ok (.iload 6, 2) := by decide +kernel
theorem dX9_ask_22 : decode cX9_ask 22 = .ok (.ifCond .ne 7, 3) := by decide +kernel
theorem dX9_ask_25 : decode cX9_ask 25 = .ok (.lconst 0, 1) := by decide +kernel
theorem dX9_ask_26 : decode cX9_ask 26 = .ok (.goto 13, 3) := by decide +kernel
theorem dX9_ask_29 : decode cX9_ask 29 = .ok (.aload_n 0, 1) := by decide +kernel
theorem dX9_ask_30 : decode cX9_ask 30 = .ok (.getfield 7, 3) := by decide +kernel
theorem dX9_ask_33 : decode cX9_ask 33 = .ok (.iload 7, 2) := by decide +kernel
theorem dX9_ask_35 : decode cX9_ask 35 = .ok (.iconst 5, 1) := by decide +kernel
theorem dX9_ask_36 : decode cX9_ask 36 = .ok (.isub, 1) := by decide +kernel
theorem dX9_ask_37 : decode cX9_ask 37 = .ok (.iaload, 1) := by decide +kernel
theorem dX9_ask_38 : decode cX9_ask 38 = .ok (.i2l, 1) := by decide +kernel
theorem dX9_ask_39 : decode cX9_ask 39 = .ok (.ldc2_w 303, 3) := by decide +kernel
theorem dX9_ask_42 : decode cX9_ask 42 = .ok (.invokestatic 71, 3) := by decide +kernel
theorem dX9_ask_45 : decode cX9_ask 45 = .ok (.ifCond .eq 52, 3) := by decide +kernel
theorem dX9_ask_48 : decode cX9_ask 48 = .ok (.aload_n 0, 1) := by decide +kernel
theorem dX9_ask_49 : decode cX9_ask 49 = .ok (.iload_n 2, 1) := by decide +kernel
theorem dX9_ask_50 : decode cX9_ask 50 = .ok (.invokevirtual 146, 3) := by decide +kernel
theorem dX9_ask_53 : decode cX9_ask 53 = .ok (.ifCond .eq 44, 3) := by decide +kernel
theorem dX9_ask_56 : decode cX9_ask 56 = .ok (.iload_n 3, 1) := by decide +kernel
theorem dX9_ask_57 : decode cX9_ask 57 = .ok (.i2l, 1) := by decide +kernel
theorem dX9_ask_58 : decode cX9_ask 58 = .ok (.ldc2_w 278, 3) := by decide +kernel
theorem dX9_ask_61 : decode cX9_ask 61 = .ok (.ldc2_w 280, 3) := by decide +kernel
theorem dX9_ask_64 : decode cX9_ask 64 = .ok (.invokestatic 71, 3) := by decide +kernel
theorem dX9_ask_67 : decode cX9_ask 67 = .ok (.ifCond .eq 30, 3) := by decide +kernel
theorem dX9_ask_70 : decode cX9_ask 70 = .ok (.iload 4, 2) := by decide +kernel
theorem dX9_ask_72 : decode cX9_ask 72 = .ok (.i2l, 1) := by decide +kernel
theorem dX9_ask_73 : decode cX9_ask 73 = .ok (.lconst 0, 1) := by decide +kernel
theorem dX9_ask_74 : decode cX9_ask 74 = .ok (.iload_n 3, 1) := by decide +kernel
theorem dX9_ask_75 : decode cX9_ask 75 = .ok (.iconst 1, 1) := by decide +kernel
theorem dX9_ask_76 : decode cX9_ask 76 = .ok (.isub, 1) := by decide +kernel
theorem dX9_ask_77 : decode cX9_ask 77 = .ok (.i2l, 1) := by decide +kernel
theorem dX9_ask_78 : decode cX9_ask 78 = .ok (.invokestatic 71, 3) := by decide +kernel
theorem dX9_ask_81 : decode cX9_ask 81 = .ok (.ifCond .eq 16, 3) := by decide +kernel
theorem dX9_ask_84 : decode cX9_ask 84 = .ok (.iload 5, 2) := by decide +kernel
theorem dX9_ask_86 : decode cX9_ask 86 = .ok (.i2l, 1) := by decide +kernel
theorem dX9_ask_87 : decode cX9_ask 87 = .ok (.lconst 0, 1) := by decide +kernel
theorem dX9_ask_88 : decode cX9_ask 88 = .ok (.ldc2_w 276, 3) := by decide +kernel
theorem dX9_ask_91 : decode cX9_ask 91 = .ok (.invokestatic 71, 3) := by decide +kernel
theorem dX9_ask_94 : decode cX9_ask 94 = .ok (.ifCond .ne 5, 3) := by decide +kernel
theorem dX9_ask_97 : decode cX9_ask 97 = .ok (.iconst (-1), 1) := by decide +kernel
theorem dX9_ask_98 : decode cX9_ask 98 = .ok (.ireturn, 1) := by decide +kernel
theorem dX9_ask_99 : decode cX9_ask 99 = .ok (.iload 6, 2) := by decide +kernel
theorem dX9_ask_101 : decode cX9_ask 101 = .ok (.bipush 6, 2) := by decide +kernel
theorem dX9_ask_103 : decode cX9_ask 103 = .ok (.if_icmp .ne 6, 3) := by decide +kernel
theorem dX9_ask_106 : decode cX9_ask 106 = .ok (.bipush (-3), 2) := by decide +kernel
theorem dX9_ask_108 : decode cX9_ask 108 = .ok (.ireturn, 1) := by decide +kernel
theorem dX9_ask_109 : decode cX9_ask 109 = .ok (.aload_n 0, 1) := by decide +kernel
theorem dX9_ask_110 : decode cX9_ask 110 = .ok (.getfield 7, 3) := by decide +kernel
theorem dX9_ask_113 : decode cX9_ask 113 = .ok (.iload 7, 2) := by decide +kernel
theorem dX9_ask_115 : decode cX9_ask 115 = .ok (.iload_n 1, 1) := by decide +kernel
theorem dX9_ask_116 : decode cX9_ask 116 = .ok (.iastore, 1) := by decide +kernel
theorem dX9_ask_117 : decode cX9_ask 117 = .ok (.aload_n 0, 1) := by decide +kernel
theorem dX9_ask_118 : decode cX9_ask 118 = .ok (.getfield 7, 3) := by decide +kernel
theorem dX9_ask_121 : decode cX9_ask 121 = .ok (.iload 7, 2) := by decide +kernel
theorem dX9_ask_123 : decode cX9_ask 123 = .ok (.iconst 1, 1) := by decide +kernel
theorem dX9_ask_124 : decode cX9_ask 124 = .ok (.iadd, 1) := by decide +kernel
theorem dX9_ask_125 : decode cX9_ask 125 = .ok (.iload_n 2, 1) := by decide +kernel
theorem dX9_ask_126 : decode cX9_ask 126 = .ok (.iastore, 1) := by decide +kernel
theorem dX9_ask_127 : decode cX9_ask 127 = .ok (.aload_n 0, 1) := by decide +kernel
theorem dX9_ask_128 : decode cX9_ask 128 = .ok (.getfield 7, 3) := by decide +kernel
theorem dX9_ask_131 : decode cX9_ask 131 = .ok (.iload 7, 2) := by decide +kernel
theorem dX9_ask_133 : decode cX9_ask 133 = .ok (.iconst 2, 1) := by decide +kernel
theorem dX9_ask_134 : decode cX9_ask 134 = .ok (.iadd, 1) := by decide +kernel
theorem dX9_ask_135 : decode cX9_ask 135 = .ok (.iload_n 3, 1) := by decide +kernel
theorem dX9_ask_136 : decode cX9_ask 136 = .ok (.iastore, 1) := by decide +kernel
theorem dX9_ask_137 : decode cX9_ask 137 = .ok (.aload_n 0, 1) := by decide +kernel
theorem dX9_ask_138 : decode cX9_ask 138 = .ok (.getfield 7, 3) := by decide +kernel
theorem dX9_ask_141 : decode cX9_ask 141 = .ok (.iload 7, 2) := by decide +kernel
theorem dX9_ask_143 : decode cX9_ask 143 = .ok (.iconst 3, 1) := by decide +kernel
theorem dX9_ask_144 : decode cX9_ask 144 = .ok (.iadd, 1) := by decide +kernel
theorem dX9_ask_145 : decode cX9_ask 145 = .ok (.iload 4, 2) := by decide +kernel
theorem dX9_ask_147 : decode cX9_ask 147 = .ok (.iastore, 1) := by decide +kernel
theorem dX9_ask_148 : decode cX9_ask 148 = .ok (.aload_n 0, 1) := by decide +kernel
theorem dX9_ask_149 : decode cX9_ask 149 = .ok (.getfield 7, 3) := by decide +kernel
theorem dX9_ask_152 : decode cX9_ask 152 = .ok (.iload 7, 2) := by decide +kernel
theorem dX9_ask_154 : decode cX9_ask 154 = .ok (.iconst 4, 1) := by decide +kernel
theorem dX9_ask_155 : decode cX9_ask 155 = .ok (.iadd, 1) := by decide +kernel
theorem dX9_ask_156 : decode cX9_ask 156 = .ok (.iload 5, 2) := by decide +kernel
theorem dX9_ask_158 : decode cX9_ask 158 = .ok (.iastore, 1) := by decide +kernel
theorem dX9_ask_159 : decode cX9_ask 159 = .ok (.aload_n 0, 1) := by decide +kernel
theorem dX9_ask_160 : decode cX9_ask 160 = .ok (.getfield 7, 3) := by decide +kernel
theorem dX9_ask_163 : decode cX9_ask 163 = .ok (.bipush 37, 2) := by decide +kernel
theorem dX9_ask_165 : decode cX9_ask 165 = .ok (.iload 6, 2) := by decide +kernel
theorem dX9_ask_167 : decode cX9_ask 167 = .ok (.iconst 1, 1) := by decide +kernel
theorem dX9_ask_168 : decode cX9_ask 168 = .ok (.iadd, 1) := by decide +kernel
theorem dX9_ask_169 : decode cX9_ask 169 = .ok (.iastore, 1) := by decide +kernel
theorem dX9_ask_170 : decode cX9_ask 170 = .ok (.iload 6, 2) := by decide +kernel
theorem dX9_ask_172 : decode cX9_ask 172 = .ok (.iconst 1, 1) := by decide +kernel
theorem dX9_ask_173 : decode cX9_ask 173 = .ok (.iadd, 1) := by decide +kernel
theorem dX9_ask_174 : decode cX9_ask 174 = .ok (.ireturn, 1) := by decide +kernel
theorem dX9_see_0 : decode cX9_see 0 = .ok (.aload_n 0, 1) := by decide +kernel
theorem dX9_see_1 : decode cX9_see 1 = .ok (.iload_n 1, 1) := by decide +kernel
theorem dX9_see_2 : decode cX9_see 2 = .ok (.invokevirtual 146, 3) := by decide +kernel
theorem dX9_see_5 : decode cX9_see 5 = .ok (.ifCond .eq 15, 3) := by decide +kernel
theorem dX9_see_8 : decode cX9_see 8 = .ok (.iload_n 2, 1) := by decide +kernel
theorem dX9_see_9 : decode cX9_see 9 = .ok (.i2l, 1) := by decide +kernel
theorem dX9_see_10 : decode cX9_see 10 = .ok (.lconst 0, 1) := by decide +kernel
theorem dX9_see_11 : decode cX9_see 11 = .ok (.ldc2_w 305, 3) := by decide +kernel
theorem dX9_see_14 : decode cX9_see 14 = .ok (.invokestatic 71, 3) := by decide +kernel
theorem dX9_see_17 : decode cX9_see 17 = .ok (.ifCond .ne 5, 3) := by decide +kernel
theorem dX9_see_20 : decode cX9_see 20 = .ok (.iconst (-1), 1) := by decide +kernel
theorem dX9_see_21 : decode cX9_see 21 = .ok (.ireturn, 1) := by decide +kernel
theorem dX9_see_22 : decode cX9_see 22 = .ok (.aload_n 0, 1) := by decide +kernel
theorem dX9_see_23 : decode cX9_see 23 = .ok (.getfield 7, 3) := by decide +kernel
theorem dX9_see_26 : decode cX9_see 26 = .ok (.bipush 71, 2) := by decide +kernel
theorem dX9_see_28 : decode cX9_see 28 = .ok (.iaload, 1) := by decide +kernel
theorem dX9_see_29 : decode cX9_see 29 = .ok (.bipush 12, 2) := by decide +kernel
theorem dX9_see_31 : decode cX9_see 31 = .ok (.if_icmp .ne 6, 3) := by decide +kernel
theorem dX9_see_34 : decode cX9_see 34 = .ok (.bipush (-3), 2) := by decide +kernel
theorem dX9_see_36 : decode cX9_see 36 = .ok (.ireturn, 1) := by decide +kernel
theorem dX9_see_37 : decode cX9_see 37 = .ok (.bipush 72, 2) := by decide +kernel
theorem dX9_see_39 : decode cX9_see 39 = .ok (.iconst 3, 1) := by decide +kernel
theorem dX9_see_40 : decode cX9_see 40 = .ok (.aload_n 0, 1) := by decide +kernel
theorem dX9_see_41 : decode cX9_see 41 = .ok (.getfield 7, 3) := by decide +kernel
theorem dX9_see_44 : decode cX9_see 44 = .ok (.bipush 71, 2) := by decide +kernel
theorem dX9_see_46 : decode cX9_see 46 = .ok (.iaload, 1) := by decide +kernel
theorem dX9_see_47 : decode cX9_see 47 = .ok (.imul, 1) := by decide +kernel
theorem dX9_see_48 : decode cX9_see 48 = .ok (.iadd, 1) := by decide +kernel
theorem dX9_see_49 : decode cX9_see 49 = .ok (.istore 4, 2) := by decide +kernel
theorem dX9_see_51 : decode cX9_see 51 = .ok (.aload_n 0, 1) := by decide +kernel
theorem dX9_see_52 : decode cX9_see 52 = .ok (.getfield 7, 3) := by decide +kernel
theorem dX9_see_55 : decode cX9_see 55 = .ok (.iload 4, 2) := by decide +kernel
theorem dX9_see_57 : decode cX9_see 57 = .ok (.iload_n 1, 1) := by decide +kernel
theorem dX9_see_58 : decode cX9_see 58 = .ok (.iastore, 1) := by decide +kernel
theorem dX9_see_59 : decode cX9_see 59 = .ok (.aload_n 0, 1) := by decide +kernel
theorem dX9_see_60 : decode cX9_see 60 = .ok (.getfield 7, 3) := by decide +kernel
theorem dX9_see_63 : decode cX9_see 63 = .ok (.iload 4, 2) := by decide +kernel
theorem dX9_see_65 : decode cX9_see 65 = .ok (.iconst 1, 1) := by decide +kernel
theorem dX9_see_66 : decode cX9_see 66 = .ok (.iadd, 1) := by decide +kernel
theorem dX9_see_67 : decode cX9_see 67 = .ok (.iload_n 2, 1) := by decide +kernel
theorem dX9_see_68 : decode cX9_see 68 = .ok (.iastore, 1) := by decide +kernel
theorem dX9_see_69 : decode cX9_see 69 = .ok (.aload_n 0, 1) := by decide +kernel
theorem dX9_see_70 : decode cX9_see 70 = .ok (.getfield 7, 3) := by decide +kernel
theorem dX9_see_73 : decode cX9_see 73 = .ok (.iload 4, 2) := by decide +kernel
theorem dX9_see_75 : decode cX9_see 75 = .ok (.iconst 2, 1) := by decide +kernel
theorem dX9_see_76 : decode cX9_see 76 = .ok (.iadd, 1) := by decide +kernel
theorem dX9_see_77 : decode cX9_see 77 = .ok (.iload_n 3, 1) := by decide +kernel
theorem dX9_see_78 : decode cX9_see 78 = .ok (.invokestatic 173, 3) := by decide +kernel
theorem dX9_see_81 : decode cX9_see 81 = .ok (.iastore, 1) := by decide +kernel
theorem dX9_see_82 : decode cX9_see 82 = .ok (.aload_n 0, 1) := by decide +kernel
theorem dX9_see_83 : decode cX9_see 83 = .ok (.getfield 7, 3) := by decide +kernel
theorem dX9_see_86 : decode cX9_see 86 = .ok (.bipush 71, 2) := by decide +kernel
theorem dX9_see_88 : decode cX9_see 88 = .ok (.dup2, 1) := by decide +kernel
theorem dX9_see_89 : decode cX9_see 89 = .ok (.iaload, 1) := by decide +kernel
theorem dX9_see_90 : decode cX9_see 90 = .ok (.iconst 1, 1) := by decide +kernel
theorem dX9_see_91 : decode cX9_see 91 = .ok (.iadd, 1) := by decide +kernel
theorem dX9_see_92 : decode cX9_see 92 = .ok (.iastore, 1) := by decide +kernel
theorem dX9_see_93 : decode cX9_see 93 = .ok (.aload_n 0, 1) := by decide +kernel
theorem dX9_see_94 : decode cX9_see 94 = .ok (.getfield 7, 3) := by decide +kernel
theorem dX9_see_97 : decode cX9_see 97 = .ok (.bipush 71, 2) := by decide +kernel
theorem dX9_see_99 : decode cX9_see 99 = .ok (.iaload, 1) := by decide +kernel
theorem dX9_see_100 : decode cX9_see 100 = .ok (.ireturn, 1) := by decide +kernel
theorem dX9_forget_0 : decode cX9_forget 0 = .ok (.iload_n 1, 1) := by decide +kernel
theorem dX9_forget_1 : decode cX9_forget 1 = .ok (.i2l, 1) := by decide +kernel
theorem dX9_forget_2 : decode cX9_forget 2 = .ok (.lconst 0, 1) := by decide +kernel
theorem dX9_forget_3 : decode cX9_forget 3 = .ok (.aload_n 0, 1) := by decide +kernel
theorem dX9_forget_4 : decode cX9_forget 4 = .ok (.getfield 7, 3) := by decide +kernel
theorem dX9_forget_7 : decode cX9_forget 7 = .ok (.bipush 71, 2) := by decide +kernel
theorem dX9_forget_9 : decode cX9_forget 9 = .ok (.iaload, 1) := by decide +kernel
theorem dX9_forget_10 : decode cX9_forget 10 = .ok (.i2l, 1) := by decide +kernel
theorem dX9_forget_11 : decode cX9_forget 11 = .ok (.invokestatic 71, 3) := by decide +kernel
theorem dX9_forget_14 : decode cX9_forget 14 = .ok (.ifCond .ne 5, 3) := by decide +kernel
theorem dX9_forget_17 : decode cX9_forget 17 = .ok (.iconst (-1), 1) := by decide +kernel
theorem dX9_forget_18 : decode cX9_forget 18 = .ok (.ireturn, 1) := by decide +kernel
theorem dX9_forget_19 : decode cX9_forget 19 = .ok (.aload_n 0, 1) := by decide +kernel
theorem dX9_forget_20 : decode cX9_forget 20 = .ok (.getfield 7, 3) := by decide +kernel
theorem dX9_forget_23 : decode cX9_forget 23 = .ok (.bipush 71, 2) := by decide +kernel
theorem dX9_forget_25 : decode cX9_forget 25 = .ok (.iaload, 1) := by decide +kernel
theorem dX9_forget_26 : decode cX9_forget 26 = .ok (.istore_n 2, 1) := by decide +kernel
theorem dX9_forget_27 : decode cX9_forget 27 = .ok (.aload_n 0, 1) := by decide +kernel
theorem dX9_forget_28 : decode cX9_forget 28 = .ok (.getfield 7, 3) := by decide +kernel
theorem dX9_forget_31 : decode cX9_forget 31 = .ok (.bipush 71, 2) := by decide +kernel
theorem dX9_forget_33 : decode cX9_forget 33 = .ok (.iload_n 1, 1) := by decide +kernel
theorem dX9_forget_34 : decode cX9_forget 34 = .ok (.iastore, 1) := by decide +kernel
theorem dX9_forget_35 : decode cX9_forget 35 = .ok (.iload_n 2, 1) := by decide +kernel
theorem dX9_forget_36 : decode cX9_forget 36 = .ok (.ireturn, 1) := by decide +kernel
theorem dX9_isFit_0 : decode cX9_isFit 0 = .ok (.iconst 1, 1) := by decide +kernel
theorem dX9_isFit_1 : decode cX9_isFit 1 = .ok (.istore_n 2, 1) := by decide +kernel
theorem dX9_isFit_2 : decode cX9_isFit 2 = .ok (.iconst 0, 1) := by decide +kernel
theorem dX9_isFit_3 : decode cX9_isFit 3 = .ok (.istore_n 3, 1) := by decide +kernel
theorem dX9_isFit_4 : decode cX9_isFit 4 = .ok (.iload_n 3, 1) := by decide +kernel
theorem dX9_isFit_5 : decode cX9_isFit 5 = .ok (.aload_n 0, 1) := by decide +kernel
theorem dX9_isFit_6 : decode cX9_isFit 6 = .ok (.getfield 7, 3) := by decide +kernel
theorem dX9_isFit_9 : decode cX9_isFit 9 = .ok (.bipush 71, 2) := by decide +kernel
theorem dX9_isFit_11 : decode cX9_isFit 11 = .ok (.iaload, 1) := by decide +kernel
theorem dX9_isFit_12 : decode cX9_isFit 12 = .ok (.if_icmp .ge 68, 3) := by decide +kernel
theorem dX9_isFit_15 : decode cX9_isFit 15 = .ok (.bipush 72, 2) := by decide +kernel
theorem dX9_isFit_17 : decode cX9_isFit 17 = .ok (.iconst 3, 1) := by decide +kernel
theorem dX9_isFit_18 : decode cX9_isFit 18 = .ok (.iload_n 3, 1) := by decide +kernel
theorem dX9_isFit_19 : decode cX9_isFit 19 = .ok (.imul, 1) := by decide +kernel
theorem dX9_isFit_20 : decode cX9_isFit 20 = .ok (.iadd, 1) := by decide +kernel
theorem dX9_isFit_21 : decode cX9_isFit 21 = .ok (.istore 4, 2) := by decide +kernel
theorem dX9_isFit_23 : decode cX9_isFit 23 = .ok (.iload_n 2, 1) := by decide +kernel
theorem dX9_isFit_24 : decode cX9_isFit 24 = .ok (.ifCond .eq 48, 3) := by decide +kernel
theorem dX9_isFit_27 : decode cX9_isFit 27 = .ok (.aload_n 0, 1) := by decide +kernel
theorem dX9_isFit_28 : decode cX9_isFit 28 = .ok (.getfield 7, 3) := by decide +kernel
theorem dX9_isFit_31 : decode cX9_isFit 31 = .ok (.iload 4, 2) := by decide +kernel
theorem dX9_isFit_33 : decode cX9_isFit 33 = .ok (.iaload, 1) := by decide +kernel
theorem dX9_isFit_34 : decode cX9_isFit 34 = .ok (.iload_n 1, 1) := by decide +kernel
theorem dX9_isFit_35 : decode cX9_isFit 35 = .ok (.if_icmp .ne 33, 3) := by decide +kernel
theorem dX9_isFit_38 : decode cX9_isFit 38 = .ok (.aload_n 0, 1) := by decide +kernel
theorem dX9_isFit_39 : decode cX9_isFit 39 = .ok (.iload_n 1, 1) := by decide +kernel
theorem dX9_isFit_40 : decode cX9_isFit 40 = .ok (.aload_n 0, 1) := by decide +kernel
theorem dX9_isFit_41 : decode cX9_isFit 41 = .ok (.getfield 7, 3) := by decide +kernel
theorem dX9_isFit_44 : decode cX9_isFit 44 = .ok (.iload 4, 2) := by decide +kernel
theorem dX9_isFit_46 : decode cX9_isFit 46 = .ok (.iconst 1, 1) := by decide +kernel
theorem dX9_isFit_47 : decode cX9_isFit 47 = .ok (.iadd, 1) := by decide +kernel
theorem dX9_isFit_48 : decode cX9_isFit 48 = .ok (.iaload, 1) := by decide +kernel
theorem dX9_isFit_49 : decode cX9_isFit 49 = .ok (.i2l, 1) := by decide +kernel
theorem dX9_isFit_50 : decode cX9_isFit 50 = .ok (.invokevirtual 169, 3) := by decide +kernel
theorem dX9_isFit_53 : decode cX9_isFit 53 = .ok (.invokestatic 173, 3) := by decide +kernel
theorem dX9_isFit_56 : decode cX9_isFit 56 = .ok (.aload_n 0, 1) := by decide +kernel
theorem dX9_isFit_57 : decode cX9_isFit 57 = .ok (.getfield 7, 3) := by decide +kernel
theorem dX9_isFit_60 : decode cX9_isFit 60 = .ok (.iload 4, 2) := by decide +kernel
theorem dX9_isFit_62 : decode cX9_isFit 62 = .ok (.iconst 2, 1) := by decide +kernel
theorem dX9_isFit_63 : decode cX9_isFit 63 = .ok (.iadd, 1) := by decide +kernel
theorem dX9_isFit_64 : decode cX9_isFit 64 = .ok (.iaload, 1) := by decide +kernel
theorem dX9_isFit_65 : decode cX9_isFit 65 = .ok (.if_icmp .ne 7, 3) := by decide +kernel
theorem dX9_isFit_68 : decode cX9_isFit 68 = .ok (.iconst 1, 1) := by decide +kernel
theorem dX9_isFit_69 : decode cX9_isFit 69 = .ok (.goto 4, 3) := by decide +kernel
theorem dX9_isFit_72 : decode cX9_isFit 72 = .ok (.iconst 0, 1) := by decide +kernel
theorem dX9_isFit_73 : decode cX9_isFit 73 = .ok (.istore_n 2, 1) := by decide +kernel
theorem dX9_isFit_74 : decode cX9_isFit 74 = .ok (.iinc 3 1, 3) := by decide +kernel
theorem dX9_isFit_77 : decode cX9_isFit 77 = .ok (.goto (-73), 3) := by decide +kernel
theorem dX9_isFit_80 : decode cX9_isFit 80 = .ok (.iload_n 2, 1) := by decide +kernel
theorem dX9_isFit_81 : decode cX9_isFit 81 = .ok (.ireturn, 1) := by decide +kernel
theorem dX9_error_0 : decode cX9_error 0 = .ok (.aload_n 0, 1) := by decide +kernel
theorem dX9_error_1 : decode cX9_error 1 = .ok (.iload_n 1, 1) := by decide +kernel
theorem dX9_error_2 : decode cX9_error 2 = .ok (.invokevirtual 146, 3) := by decide +kernel
theorem dX9_error_5 : decode cX9_error 5 = .ok (.ifCond .ne 5, 3) := by decide +kernel
theorem dX9_error_8 : decode cX9_error 8 = .ok (.iconst (-1), 1) := by decide +kernel
theorem dX9_error_9 : decode cX9_error 9 = .ok (.ireturn, 1) := by decide +kernel
theorem dX9_error_10 : decode cX9_error 10 = .ok (.aload_n 0, 1) := by decide +kernel
theorem dX9_error_11 : decode cX9_error 11 = .ok (.iload_n 1, 1) := by decide +kernel
theorem dX9_error_12 : decode cX9_error 12 = .ok (.invokevirtual 307, 3) := by decide +kernel
theorem dX9_error_15 : decode cX9_error 15 = .ok (.istore_n 2, 1) := by decide +kernel
theorem dX9_error_16 : decode cX9_error 16 = .ok (.aload_n 0, 1) := by decide +kernel
theorem dX9_error_17 : decode cX9_error 17 = .ok (.iload_n 1, 1) := by decide +kernel
theorem dX9_error_18 : decode cX9_error 18 = .ok (.iconst 2, 1) := by decide +kernel
theorem dX9_error_19 : decode cX9_error 19 = .ok (.invokevirtual 143, 3) := by decide +kernel
theorem dX9_error_22 : decode cX9_error 22 = .ok (.istore_n 3, 1) := by decide +kernel
theorem dX9_error_23 : decode cX9_error 23 = .ok (.aload_n 0, 1) := by decide +kernel
theorem dX9_error_24 : decode cX9_error 24 = .ok (.getfield 7, 3) := by decide +kernel
theorem dX9_error_27 : decode cX9_error 27 = .ok (.iconst 1, 1) := by decide +kernel
theorem dX9_error_28 : decode cX9_error 28 = .ok (.bipush 6, 2) := by decide +kernel
theorem dX9_error_30 : decode cX9_error 30 = .ok (.iload_n 1, 1) := by decide +kernel
theorem dX9_error_31 : decode cX9_error 31 = .ok (.imul, 1) := by decide +kernel
theorem dX9_error_32 : decode cX9_error 32 = .ok (.iadd, 1) := by decide +kernel
theorem dX9_error_33 : decode cX9_error 33 = .ok (.iconst 2, 1) := by decide +kernel
theorem dX9_error_34 : decode cX9_error 34 = .ok (.iadd, 1) := by decide +kernel
theorem dX9_error_35 : decode cX9_error 35 = .ok (.iload_n 3, 1) := by decide +kernel
theorem dX9_error_36 : decode cX9_error 36 = .ok (.iconst 1, 1) := by decide +kernel
theorem dX9_error_37 : decode cX9_error 37 = .ok (.iadd, 1) := by decide +kernel
theorem dX9_error_38 : decode cX9_error 38 = .ok (.aload_n 0, 1) := by decide +kernel
theorem dX9_error_39 : decode cX9_error 39 = .ok (.iload_n 1, 1) := by decide +kernel
theorem dX9_error_40 : decode cX9_error 40 = .ok (.iconst 1, 1) := by decide +kernel
theorem dX9_error_41 : decode cX9_error 41 = .ok (.invokevirtual 143, 3) := by decide +kernel
theorem dX9_error_44 : decode cX9_error 44 = .ok (.irem, 1) := by decide +kernel
theorem dX9_error_45 : decode cX9_error 45 = .ok (.iastore, 1) := by decide +kernel
theorem dX9_error_46 : decode cX9_error 46 = .ok (.aload_n 0, 1) := by decide +kernel
theorem dX9_error_47 : decode cX9_error 47 = .ok (.iload_n 1, 1) := by decide +kernel
theorem dX9_error_48 : decode cX9_error 48 = .ok (.invokevirtual 307, 3) := by decide +kernel
theorem dX9_error_51 : decode cX9_error 51 = .ok (.istore 4, 2) := by decide +kernel
theorem dX9_error_53 : decode cX9_error 53 = .ok (.aload_n 0, 1) := by decide +kernel
theorem dX9_error_54 : decode cX9_error 54 = .ok (.getfield 7, 3) := by decide +kernel
theorem dX9_error_57 : decode cX9_error 57 = .ok (.iconst 1, 1) := by decide +kernel
theorem dX9_error_58 : decode cX9_error 58 = .ok (.bipush 6, 2) := by decide +kernel
theorem dX9_error_60 : decode cX9_error 60 = .ok (.iload_n 1, 1) := by decide +kernel
theorem dX9_error_61 : decode cX9_error 61 = .ok (.imul, 1) := by decide +kernel
theorem dX9_error_62 : decode cX9_error 62 = .ok (.iadd, 1) := by decide +kernel
theorem dX9_error_63 : decode cX9_error 63 = .ok (.iconst 2, 1) := by decide +kernel
theorem dX9_error_64 : decode cX9_error 64 = .ok (.iadd, 1) := by decide +kernel
theorem dX9_error_65 : decode cX9_error 65 = .ok (.iload_n 3, 1) := by decide +kernel
theorem dX9_error_66 : decode cX9_error 66 = .ok (.iastore, 1) := by decide +kernel
theorem dX9_error_67 : decode cX9_error 67 = .ok (.iload_n 2, 1) := by decide +kernel
theorem dX9_error_68 : decode cX9_error 68 = .ok (.ifCond .eq 16, 3) := by decide +kernel
theorem dX9_error_71 : decode cX9_error 71 = .ok (.iload 4, 2) := by decide +kernel
theorem dX9_error_73 : decode cX9_error 73 = .ok (.ifCond .eq 7, 3) := by decide +kernel
theorem dX9_error_76 : decode cX9_error 76 = .ok (.iconst 2, 1) := by decide +kernel
theorem dX9_error_77 : decode cX9_error 77 = .ok (.goto 17, 3) := by decide +kernel
theorem dX9_error_80 : decode cX9_error 80 = .ok (.iconst 0, 1) := by decide +kernel
theorem dX9_error_81 : decode cX9_error 81 = .ok (.goto 13, 3) := by decide +kernel
theorem dX9_error_84 : decode cX9_error 84 = .ok (.iload 4, 2) := by decide +kernel
theorem dX9_error_86 : decode cX9_error 86 = .ok (.ifCond .eq 7, 3) := by decide +kernel
theorem dX9_error_89 : decode cX9_error 89 = .ok (.iconst 1, 1) := by decide +kernel
theorem dX9_error_90 : decode cX9_error 90 = .ok (.goto 4, 3) := by decide +kernel
theorem dX9_error_93 : decode cX9_error 93 = .ok (.iconst 3, 1) := by decide +kernel
theorem dX9_error_94 : decode cX9_error 94 = .ok (.ireturn, 1) := by decide +kernel
theorem dX9_isPlainFit_0 : decode cX9_isPlainFit 0 = .ok (.iconst 1, 1) := by decide +kernel
theorem dX9_isPlainFit_1 : decode cX9_isPlainFit 1 = .ok (.istore 4, 2) := by decide +kernel
theorem dX9_isPlainFit_3 : decode cX9_isPlainFit 3 = .ok (.iconst 0, 1) := by decide +kernel
theorem dX9_isPlainFit_4 : decode cX9_isPlainFit 4 = .ok (.istore 5, 2) := by decide +kernel
theorem dX9_isPlainFit_6 : decode cX9_isPlainFit 6 = .ok (.iload 5, 2) := by decide +kernel
theorem dX9_isPlainFit_8 : decode cX9_isPlainFit 8 = .ok (.aload_n 0, 1) := by decide +kernel
theorem dX9_isPlainFit_9 : decode cX9_isPlainFit 9 = .ok (.getfield 7, 3) := by decide +kernel
theorem dX9_isPlainFit_12 : decode cX9_isPlainFit 12 = .ok (.bipush 71, 2) := by decide +kernel
theorem dX9_isPlainFit_14 : decode cX9_isPlainFit 14 = .ok (.iaload, 1) := by decide +kernel
theorem dX9_isPlainFit_15 : decode cX9_isPlainFit 15 = .ok (.if_icmp .ge 76, 3) := by decide +kernel
theorem dX9_isPlainFit_18 : decode cX9_isPlainFit 18 = .ok (.bipush 72, 2) := by decide +kernel
theorem dX9_isPlainFit_20 : decode cX9_isPlainFit 20 = .ok (.iconst 3, 1) := by decide +kernel
theorem dX9_isPlainFit_21 : decode cX9_isPlainFit 21 = .ok (.iload 5, 2) := by decide +kernel
theorem dX9_isPlainFit_23 : decode cX9_isPlainFit 23 = .ok (.imul, 1) := by decide +kernel
theorem dX9_isPlainFit_24 : decode cX9_isPlainFit 24 = .ok (.iadd, 1) := by decide +kernel
theorem dX9_isPlainFit_25 : decode cX9_isPlainFit 25 = .ok (.istore 6, 2) := by decide +kernel
theorem dX9_isPlainFit_27 : decode cX9_isPlainFit 27 = .ok (.iload 4, 2) := by decide +kernel
theorem dX9_isPlainFit_29 : decode cX9_isPlainFit 29 = .ok (.ifCond .eq 53, 3) := by decide +kernel
theorem dX9_isPlainFit_32 : decode cX9_isPlainFit 32 = .ok (.aload_n 0, 1) := by decide +kernel
theorem dX9_isPlainFit_33 : decode cX9_isPlainFit 33 = .ok (.getfield 7, 3) := by decide +kernel
theorem dX9_isPlainFit_36 : decode cX9_isPlainFit 36 = .ok (.iload 6, 2) := by decide +kernel
theorem dX9_isPlainFit_38 : decode cX9_isPlainFit 38 = .ok (.iaload, 1) := by decide +kernel
theorem dX9_isPlainFit_39 : decode cX9_isPlainFit 39 = .ok (.iload_n 1, 1) := by decide +kernel
theorem dX9_isPlainFit_40 : decode cX9_isPlainFit 40 = .ok (.if_icmp .ne 38, 3) := by decide +kernel
theorem dX9_isPlainFit_43 : decode cX9_isPlainFit 43 = .ok (.aload_n 0, 1) := by decide +kernel
theorem dX9_isPlainFit_44 : decode cX9_isPlainFit 44 = .ok (.getfield 7, 3) := by decide +kernel
theorem dX9_isPlainFit_47 : decode cX9_isPlainFit 47 = .ok (.iload 6, 2) := by decide +kernel
theorem dX9_isPlainFit_49 : decode cX9_isPlainFit 49 = .ok (.iconst 1, 1) := by decide +kernel
theorem dX9_isPlainFit_50 : decode cX9_isPlainFit 50 = .ok (.iadd, 1) := by decide +kernel
theorem dX9_isPlainFit_51 : decode cX9_isPlainFit 51 = .ok (.iaload, 1) := by decide +kernel
theorem dX9_isPlainFit_52 : decode cX9_isPlainFit 52 = .ok (.iload_n 2, 1) := by decide +kernel
theorem dX9_isPlainFit_53 : decode cX9_isPlainFit 53 = .ok (.irem, 1) := by decide +kernel
theorem dX9_isPlainFit_54 : decode cX9_isPlainFit 54 = .ok (.iload_n 3, 1) := by decide +kernel
theorem dX9_isPlainFit_55 : decode cX9_isPlainFit 55 = .ok (.if_icmp .ne 7, 3) := by decide +kernel
theorem dX9_isPlainFit_58 : decode cX9_isPlainFit 58 = .ok (.iconst 1, 1) := by decide +kernel
theorem dX9_isPlainFit_59 : decode cX9_isPlainFit 59 = .ok (.goto 4, 3) := by decide +kernel
theorem dX9_isPlainFit_62 : decode cX9_isPlainFit 62 = .ok (.iconst 0, 1) := by decide +kernel
theorem dX9_isPlainFit_63 : decode cX9_isPlainFit 63 = .ok (.invokestatic 173, 3) := by decide +kernel
theorem dX9_isPlainFit_66 : decode cX9_isPlainFit 66 = .ok (.aload_n 0, 1) := by decide +kernel
theorem dX9_isPlainFit_67 : decode cX9_isPlainFit 67 = .ok (.getfield 7, 3) := by decide +kernel
theorem dX9_isPlainFit_70 : decode cX9_isPlainFit 70 = .ok (.iload 6, 2) := by decide +kernel
theorem dX9_isPlainFit_72 : decode cX9_isPlainFit 72 = .ok (.iconst 2, 1) := by decide +kernel
theorem dX9_isPlainFit_73 : decode cX9_isPlainFit 73 = .ok (.iadd, 1) := by decide +kernel
theorem dX9_isPlainFit_74 : decode cX9_isPlainFit 74 = .ok (.iaload, 1) := by decide +kernel
theorem dX9_isPlainFit_75 : decode cX9_isPlainFit 75 = .ok (.if_icmp .ne 7, 3) := by decide +kernel
theorem dX9_isPlainFit_78 : decode cX9_isPlainFit 78 = .ok (.iconst 1, 1) := by decide +kernel
theorem dX9_isPlainFit_79 : decode cX9_isPlainFit 79 = .ok (.goto 4, 3) := by decide +kernel
theorem dX9_isPlainFit_82 : decode cX9_isPlainFit 82 = .ok (.iconst 0, 1) := by decide +kernel
theorem dX9_isPlainFit_83 : decode cX9_isPlainFit 83 = .ok (.istore 4, 2) := by decide +kernel
theorem dX9_isPlainFit_85 : decode cX9_isPlainFit 85 = .ok (.iinc 5 1, 3) := by decide +kernel
theorem dX9_isPlainFit_88 : decode cX9_isPlainFit 88 = .ok (.goto (-82), 3) := by decide +kernel
theorem dX9_isPlainFit_91 : decode cX9_isPlainFit 91 = .ok (.iload 4, 2) := by decide +kernel
theorem dX9_isPlainFit_93 : decode cX9_isPlainFit 93 = .ok (.ireturn, 1) := by decide +kernel
theorem dX9_wheels_0 : decode cX9_wheels 0 = .ok (.aload_n 0, 1) := by decide +kernel
theorem dX9_wheels_1 : decode cX9_wheels 1 = .ok (.iload_n 1, 1) := by decide +kernel
theorem dX9_wheels_2 : decode cX9_wheels 2 = .ok (.invokevirtual 146, 3) := by decide +kernel
theorem dX9_wheels_5 : decode cX9_wheels 5 = .ok (.ifCond .eq 15, 3) := by decide +kernel
theorem dX9_wheels_8 : decode cX9_wheels 8 = .ok (.iload_n 2, 1) := by decide +kernel
theorem dX9_wheels_9 : decode cX9_wheels 9 = .ok (.i2l, 1) := by decide +kernel
theorem dX9_wheels_10 : decode cX9_wheels 10 = .ok (.lconst 0, 1) := by decide +kernel
theorem dX9_wheels_11 : decode cX9_wheels 11 = .ok (.ldc2_w 278, 3) := by decide +kernel
theorem dX9_wheels_14 : decode cX9_wheels 14 = .ok (.invokestatic 71, 3) := by decide +kernel
theorem dX9_wheels_17 : decode cX9_wheels 17 = .ok (.ifCond .ne 5, 3) := by decide +kernel
theorem dX9_wheels_20 : decode cX9_wheels 20 = .ok (.iconst (-1), 1) := by decide +kernel
theorem dX9_wheels_21 : decode cX9_wheels 21 = .ok (.ireturn, 1) := by decide +kernel
theorem dX9_wheels_22 : decode cX9_wheels 22 = .ok (.iconst 0, 1) := by decide +kernel
theorem dX9_wheels_23 : decode cX9_wheels 23 = .ok (.istore_n 3, 1) := by decide +kernel
theorem dX9_wheels_24 : decode cX9_wheels 24 = .ok (.bipush (-4), 2) := by decide +kernel
theorem dX9_wheels_26 : decode cX9_wheels 26 = .ok (.istore 4, 2) := by decide +kernel
theorem dX9_wheels_28 : decode cX9_wheels 28 = .ok (.bipush (-4), 2) := by decide +kernel
theorem dX9_wheels_30 : decode cX9_wheels 30 = .ok (.istore 5, 2) := by decide +kernel
theorem dX9_wheels_32 : decode cX9_wheels 32 = .ok (.iconst 2, 1) := by decide +kernel
theorem dX9_wheels_33 : decode cX9_wheels 33 = .ok (.istore 6, 2) := by decide +kernel
theorem dX9_wheels_35 : decode cX9_wheels 35 = .ok (.iload 6, 2) := by decide +kernel
theorem dX9_wheels_37 : decode cX9_wheels 37 = .ok (.bipush 60, 2) := by decide +kernel
theorem dX9_wheels_39 : decode cX9_wheels 39 = .ok (.if_icmp .gt 66, 3) := by decide +kernel
theorem dX9_wheels_42 : decode cX9_wheels 42 = .ok (.iconst 0, 1) := by decide +kernel
theorem dX9_wheels_43 : decode cX9_wheels 43 = .ok (.istore 7, 2) := by decide +kernel
theorem dX9_wheels_45 : decode cX9_wheels 45 = .ok (.iload 7, 2) := by decide +kernel
theorem dX9_wheels_47 : decode cX9_wheels 47 = .ok (.iload 6, 2) := by decide +kernel
theorem dX9_wheels_49 : decode cX9_wheels 49 = .ok (.if_icmp .ge 50, 3) := by decide +kernel
theorem dX9_wheels_52 : decode cX9_wheels 52 = .ok (.aload_n 0, 1) := by decide +kernel
theorem dX9_wheels_53 : decode cX9_wheels 53 = .ok (.iload_n 1, 1) := by decide +kernel
theorem dX9_wheels_54 : decode cX9_wheels 54 = .ok (.iload 6, 2) := by decide +kernel
theorem dX9_wheels_56 : decode cX9_wheels 56 = .ok (.iload 7, 2) := by decide +kernel
theorem dX9_wheels_58 : decode cX9_wheels 58 = .ok (.invokevirtual 310, 3) := by decide +kernel
theorem dX9_wheels_61 : decode cX9_wheels 61 = .ok (.ifCond .eq 32, 3) := by decide +kernel
theorem dX9_wheels_64 : decode cX9_wheels 64 = .ok (.iload_n 3, 1) := by decide +kernel
theorem dX9_wheels_65 : decode cX9_wheels 65 = .ok (.ifCond .ne 8, 3) := by decide +kernel
theorem dX9_wheels_68 : decode cX9_wheels 68 = .ok (.iload 6, 2) := by decide +kernel
theorem dX9_wheels_70 : decode cX9_wheels 70 = .ok (.goto 5, 3) := by decide +kernel
theorem dX9_wheels_73 : decode cX9_wheels 73 = .ok (.iload 4, 2) := by decide +kernel
theorem dX9_wheels_75 : decode cX9_wheels 75 = .ok (.istore 4, 2) := by decide +kernel
theorem dX9_wheels_77 : decode cX9_wheels 77 = .ok (.iload_n 3, 1) := by decide +kernel
theorem dX9_wheels_78 : decode cX9_wheels 78 = .ok (.ifCond .ne 8, 3) := by decide +kernel
theorem dX9_wheels_81 : decode cX9_wheels 81 = .ok (.iload 7, 2) := by decide +kernel
theorem dX9_wheels_83 : decode cX9_wheels 83 = .ok (.goto 5, 3) := by decide +kernel
theorem dX9_wheels_86 : decode cX9_wheels 86 = .ok (.iload 5, 2) := by decide +kernel
theorem dX9_wheels_88 : decode cX9_wheels 88 = .ok (.istore 5, 2) := by decide +kernel
theorem dX9_wheels_90 : decode cX9_wheels 90 = .ok (.iinc 3 1, 3) := by decide +kernel
theorem dX9_wheels_93 : decode cX9_wheels 93 = .ok (.iinc 7 1, 3) := by decide +kernel
theorem dX9_wheels_96 : decode cX9_wheels 96 = .ok (.goto (-51), 3) := by decide +kernel
theorem dX9_wheels_99 : decode cX9_wheels 99 = .ok (.iinc 6 1, 3) := by decide +kernel
theorem dX9_wheels_102 : decode cX9_wheels 102 = .ok (.goto (-67), 3) := by decide +kernel
theorem dX9_wheels_105 : decode cX9_wheels 105 = .ok (.iload_n 2, 1) := by decide +kernel
theorem dX9_wheels_106 : decode cX9_wheels 106 = .ok (.ifCond .ne 7, 3) := by decide +kernel
theorem dX9_wheels_109 : decode cX9_wheels 109 = .ok (.iload_n 3, 1) := by decide +kernel
theorem dX9_wheels_110 : decode cX9_wheels 110 = .ok (.goto 15, 3) := by decide +kernel
theorem dX9_wheels_113 : decode cX9_wheels 113 = .ok (.iload_n 2, 1) := by decide +kernel
theorem dX9_wheels_114 : decode cX9_wheels 114 = .ok (.iconst 1, 1) := by decide +kernel
theorem dX9_wheels_115 : decode cX9_wheels 115 = .ok (.if_icmp .ne 8, 3) := by decide +kernel
theorem dX9_wheels_118 : decode cX9_wheels 118 = .ok (.iload 4, 2) := by decide +kernel
theorem dX9_wheels_120 : decode cX9_wheels 120 = .ok (.goto 5, 3) := by decide +kernel
theorem dX9_wheels_123 : decode cX9_wheels 123 = .ok (.iload 5, 2) := by decide +kernel
theorem dX9_wheels_125 : decode cX9_wheels 125 = .ok (.ireturn, 1) := by decide +kernel
theorem dX9_worn_0 : decode cX9_worn 0 = .ok (.aload_n 0, 1) := by decide +kernel
theorem dX9_worn_1 : decode cX9_worn 1 = .ok (.iload_n 1, 1) := by decide +kernel
theorem dX9_worn_2 : decode cX9_worn 2 = .ok (.invokevirtual 146, 3) := by decide +kernel
theorem dX9_worn_5 : decode cX9_worn 5 = .ok (.ifCond .ne 5, 3) := by decide +kernel
theorem dX9_worn_8 : decode cX9_worn 8 = .ok (.iconst (-1), 1) := by decide +kernel
theorem dX9_worn_9 : decode cX9_worn 9 = .ok (.ireturn, 1) := by decide +kernel
theorem dX9_worn_10 : decode cX9_worn 10 = .ok (.aload_n 0, 1) := by decide +kernel
theorem dX9_worn_11 : decode cX9_worn 11 = .ok (.iload_n 1, 1) := by decide +kernel
theorem dX9_worn_12 : decode cX9_worn 12 = .ok (.iconst 0, 1) := by decide +kernel
theorem dX9_worn_13 : decode cX9_worn 13 = .ok (.invokevirtual 143, 3) := by decide +kernel
theorem dX9_worn_16 : decode cX9_worn 16 = .ok (.istore_n 2, 1) := by decide +kernel
theorem dX9_worn_17 : decode cX9_worn 17 = .ok (.aload_n 0, 1) := by decide +kernel
theorem dX9_worn_18 : decode cX9_worn 18 = .ok (.iload_n 1, 1) := by decide +kernel
theorem dX9_worn_19 : decode cX9_worn 19 = .ok (.iconst 4, 1) := by decide +kernel
theorem dX9_worn_20 : decode cX9_worn 20 = .ok (.invokevirtual 143, 3) := by decide +kernel
theorem dX9_worn_23 : decode cX9_worn 23 = .ok (.istore_n 3, 1) := by decide +kernel
theorem dX9_worn_24 : decode cX9_worn 24 = .ok (.iconst 0, 1) := by decide +kernel
theorem dX9_worn_25 : decode cX9_worn 25 = .ok (.istore 4, 2) := by decide +kernel
theorem dX9_worn_27 : decode cX9_worn 27 = .ok (.iconst 0, 1) := by decide +kernel
theorem dX9_worn_28 : decode cX9_worn 28 = .ok (.istore 5, 2) := by decide +kernel
theorem dX9_worn_30 : decode cX9_worn 30 = .ok (.iload 5, 2) := by decide +kernel
theorem dX9_worn_32 : decode cX9_worn 32 = .ok (.iconst 4, 1) := by decide +kernel
theorem dX9_worn_33 : decode cX9_worn 33 = .ok (.if_icmp .ge 82, 3) := by decide +kernel
theorem dX9_worn_36 : decode cX9_worn 36 = .ok (.aload_n 0, 1) := by decide +kernel
theorem dX9_worn_37 : decode cX9_worn 37 = .ok (.getfield 7, 3) := by decide +kernel
theorem dX9_worn_40 : decode cX9_worn 40 = .ok (.iconst 1, 1) := by decide +kernel
theorem dX9_worn_41 : decode cX9_worn 41 = .ok (.bipush 6, 2) := by decide +kernel
theorem dX9_worn_43 : decode cX9_worn 43 = .ok (.iload_n 1, 1) := by decide +kernel
theorem dX9_worn_44 : decode cX9_worn 44 = .ok (.imul, 1) := by decide +kernel
theorem dX9_worn_45 : decode cX9_worn 45 = .ok (.iadd, 1) := by decide +kernel
theorem dX9_worn_46 : decode cX9_worn 46 = .ok (.iconst 0, 1) := by decide +kernel
theorem dX9_worn_47 : decode cX9_worn 47 = .ok (.iadd, 1) := by decide +kernel
theorem dX9_worn_48 : decode cX9_worn 48 = .ok (.iload_n 2, 1) := by decide +kernel
theorem dX9_worn_49 : decode cX9_worn 49 = .ok (.iconst 2, 1) := by decide +kernel
theorem dX9_worn_50 : decode cX9_worn 50 = .ok (.idiv, 1) := by decide +kernel
theorem dX9_worn_51 : decode cX9_worn 51 = .ok (.iconst 2, 1) := by decide +kernel
theorem dX9_worn_52 : decode cX9_worn 52 = .ok (.imul, 1) := by decide +kernel
theorem dX9_worn_53 : decode cX9_worn 53 = .ok (.iload 5, 2) := by decide +kernel
theorem dX9_worn_55 : decode cX9_worn 55 = .ok (.ifCond .le 7, 3) := by decide +kernel
theorem dX9_worn_58 : decode cX9_worn 58 = .ok (.iconst 1, 1) := by decide +kernel
theorem dX9_worn_59 : decode cX9_worn 59 = .ok (.goto 4, 3) := by decide +kernel
theorem dX9_worn_62 : decode cX9_worn 62 = .ok (.iconst 0, 1) := by decide +kernel
theorem dX9_worn_63 : decode cX9_worn 63 = .ok (.invokestatic 173, 3) := by decide +kernel
theorem dX9_worn_66 : decode cX9_worn 66 = .ok (.iadd, 1) := by decide +kernel
theorem dX9_worn_67 : decode cX9_worn 67 = .ok (.iastore, 1) := by decide +kernel
theorem dX9_worn_68 : decode cX9_worn 68 = .ok (.aload_n 0, 1) := by decide +kernel
theorem dX9_worn_69 : decode cX9_worn 69 = .ok (.getfield 7, 3) := by decide +kernel
theorem dX9_worn_72 : decode cX9_worn 72 = .ok (.iconst 1, 1) := by decide +kernel
theorem dX9_worn_73 : decode cX9_worn 73 = .ok (.bipush 6, 2) := by decide +kernel
theorem dX9_worn_75 : decode cX9_worn 75 = .ok (.iload_n 1, 1) := by decide +kernel
theorem dX9_worn_76 : decode cX9_worn 76 = .ok (.imul, 1) := by decide +kernel
theorem dX9_worn_77 : decode cX9_worn 77 = .ok (.iadd, 1) := by decide +kernel
theorem dX9_worn_78 : decode cX9_worn 78 = .ok (.iconst 4, 1) := by decide +kernel
theorem dX9_worn_79 : decode cX9_worn 79 = .ok (.iadd, 1) := by decide +kernel
theorem dX9_worn_80 : decode cX9_worn 80 = .ok (.iload 5, 2) := by decide +kernel
theorem dX9_worn_82 : decode cX9_worn 82 = .ok (.ifCond .le 8, 3) := by decide +kernel
theorem dX9_worn_85 : decode cX9_worn 85 = .ok (.iload 5, 2) := by decide +kernel
theorem dX9_worn_87 : decode cX9_worn 87 = .ok (.goto 5, 3) := by decide +kernel
theorem dX9_worn_90 : decode cX9_worn 90 = .ok (.bipush (-4), 2) := by decide +kernel
theorem dX9_worn_92 : decode cX9_worn 92 = .ok (.iastore, 1) := by decide +kernel
theorem dX9_worn_93 : decode cX9_worn 93 = .ok (.iload 4, 2) := by decide +kernel
theorem dX9_worn_95 : decode cX9_worn 95 = .ok (.aload_n 0, 1) := by decide +kernel
theorem dX9_worn_96 : decode cX9_worn 96 = .ok (.iload_n 1, 1) := by decide +kernel
theorem dX9_worn_97 : decode cX9_worn 97 = .ok (.invokevirtual 307, 3) := by decide +kernel
theorem dX9_worn_100 : decode cX9_worn 100 = .ok (.invokestatic 173, 3) := by decide +kernel
theorem dX9_worn_103 : decode cX9_worn 103 = .ok (.iload 5, 2) := by decide +kernel
theorem dX9_worn_105 : decode cX9_worn 105 = .ok (.ishl, 1) := by decide +kernel
theorem dX9_worn_106 : decode cX9_worn 106 = .ok (.ior, 1) := by decide +kernel
theorem dX9_worn_107 : decode cX9_worn 107 = .ok (.istore 4, 2) := by decide +kernel
theorem dX9_worn_109 : decode cX9_worn 109 = .ok (.iinc 5 1, 3) := by decide +kernel
theorem dX9_worn_112 : decode cX9_worn 112 = .ok (.goto (-82), 3) := by decide +kernel
theorem dX9_worn_115 : decode cX9_worn 115 = .ok (.aload_n 0, 1) := by decide +kernel
theorem dX9_worn_116 : decode cX9_worn 116 = .ok (.getfield 7, 3) := by decide +kernel
theorem dX9_worn_119 : decode cX9_worn 119 = .ok (.iconst 1, 1) := by decide +kernel
theorem dX9_worn_120 : decode cX9_worn 120 = .ok (.bipush 6, 2) := by decide +kernel
theorem dX9_worn_122 : decode cX9_worn 122 = .ok (.iload_n 1, 1) := by decide +kernel
theorem dX9_worn_123 : decode cX9_worn 123 = .ok (.imul, 1) := by decide +kernel
theorem dX9_worn_124 : decode cX9_worn 124 = .ok (.iadd, 1) := by decide +kernel
theorem dX9_worn_125 : decode cX9_worn 125 = .ok (.iconst 0, 1) := by decide +kernel
theorem dX9_worn_126 : decode cX9_worn 126 = .ok (.iadd, 1) := by decide +kernel
theorem dX9_worn_127 : decode cX9_worn 127 = .ok (.iload_n 2, 1) := by decide +kernel
theorem dX9_worn_128 : decode cX9_worn 128 = .ok (.iastore, 1) := by decide +kernel
theorem dX9_worn_129 : decode cX9_worn 129 = .ok (.aload_n 0, 1) := by decide +kernel
theorem dX9_worn_130 : decode cX9_worn 130 = .ok (.getfield 7, 3) := by decide +kernel
theorem dX9_worn_133 : decode cX9_worn 133 = .ok (.iconst 1, 1) := by decide +kernel
theorem dX9_worn_134 : decode cX9_worn 134 = .ok (.bipush 6, 2) := by decide +kernel
theorem dX9_worn_136 : decode cX9_worn 136 = .ok (.iload_n 1, 1) := by decide +kernel
theorem dX9_worn_137 : decode cX9_worn 137 = .ok (.imul, 1) := by decide +kernel
theorem dX9_worn_138 : decode cX9_worn 138 = .ok (.iadd, 1) := by decide +kernel
theorem dX9_worn_139 : decode cX9_worn 139 = .ok (.iconst 4, 1) := by decide +kernel
theorem dX9_worn_140 : decode cX9_worn 140 = .ok (.iadd, 1) := by decide +kernel
theorem dX9_worn_141 : decode cX9_worn 141 = .ok (.iload_n 3, 1) := by decide +kernel
theorem dX9_worn_142 : decode cX9_worn 142 = .ok (.iastore, 1) := by decide +kernel
theorem dX9_worn_143 : decode cX9_worn 143 = .ok (.iload 4, 2) := by decide +kernel
theorem dX9_worn_145 : decode cX9_worn 145 = .ok (.ireturn, 1) := by decide +kernel
theorem dX9_isFright_0 : decode cX9_isFright 0 = .ok (.iconst 0, 1) := by decide +kernel
theorem dX9_isFright_1 : decode cX9_isFright 1 = .ok (.istore 4, 2) := by decide +kernel
theorem dX9_isFright_3 : decode cX9_isFright 3 = .ok (.iconst 0, 1) := by decide +kernel
theorem dX9_isFright_4 : decode cX9_isFright 4 = .ok (.istore 5, 2) := by decide +kernel
theorem dX9_isFright_6 : decode cX9_isFright 6 = .ok (.iload 5, 2) := by decide +kernel
theorem dX9_isFright_8 : decode cX9_isFright 8 = .ok (.aload_n 0, 1) := by decide +kernel
theorem dX9_isFright_9 : decode cX9_isFright 9 = .ok (.getfield 7, 3) := by decide +kernel
theorem dX9_isFright_12 : decode cX9_isFright 12 = .ok (.iconst 0, 1) := by decide +kernel
theorem dX9_isFright_13 : decode cX9_isFright 13 = .ok (.iaload, 1) := by decide +kernel
theorem dX9_isFright_14 : decode cX9_isFright 14 = .ok (.if_icmp .ge 59, 3) := by decide +kernel
theorem dX9_isFright_17 : decode cX9_isFright 17 = .ok (.iload 4, 2) := by decide +kernel
theorem dX9_isFright_19 : decode cX9_isFright 19 = .ok (.ifCond .ne 41, 3) := by decide +kernel
theorem dX9_isFright_22 : decode cX9_isFright 22 = .ok (.aload_n 0, 1) := by decide +kernel
theorem dX9_isFright_23 : decode cX9_isFright 23 = .ok (.iload 5, 2) := by decide +kernel
theorem dX9_isFright_25 : decode cX9_isFright 25 = .ok (.lload_n 2, 1) := by decide +kernel
theorem dX9_isFright_26 : decode cX9_isFright 26 = .ok (.invokevirtual 169, 3) := by decide +kernel
theorem dX9_isFright_29 : decode cX9_isFright 29 = .ok (.ifCond .eq 35, 3) := by decide +kernel
theorem dX9_isFright_32 : decode cX9_isFright 32 = .ok (.aload_n 0, 1) := by decide +kernel
theorem dX9_isFright_33 : decode cX9_isFright 33 = .ok (.iload 5, 2) := by decide +kernel
theorem dX9_isFright_35 : decode cX9_isFright 35 = .ok (.lload_n 2, 1) := by decide +kernel
theorem dX9_isFright_36 : decode cX9_isFright 36 = .ok (.invokevirtual 263, 3) := by decide +kernel
theorem dX9_isFright_39 : decode cX9_isFright 39 = .ok (.i2l, 1) := by decide +kernel
theorem dX9_isFright_40 : decode cX9_isFright 40 = .ok (.iload_n 1, 1) := by decide +kernel
theorem dX9_isFright_41 : decode cX9_isFright 41 = .ok (.aload_n 0, 1) := by decide +kernel
theorem dX9_isFright_42 : decode cX9_isFright 42 = .ok (.getfield 63, 3) := by decide +kernel
theorem dX9_isFright_45 : decode cX9_isFright 45 = .ok (.isub, 1) := by decide +kernel
theorem dX9_isFright_46 : decode cX9_isFright 46 = .ok (.i2l, 1) := by decide +kernel
theorem dX9_isFright_47 : decode cX9_isFright 47 = .ok (.iload_n 1, 1) := by decide +kernel
theorem dX9_isFright_48 : decode cX9_isFright 48 = .ok (.aload_n 0, 1) := by decide +kernel
theorem dX9_isFright_49 : decode cX9_isFright 49 = .ok (.getfield 63, 3) := by decide +kernel
theorem dX9_isFright_52 : decode cX9_isFright 52 = .ok (.iadd, 1) := by decide +kernel
theorem dX9_isFright_53 : decode cX9_isFright 53 = .ok (.i2l, 1) := by decide +kernel
theorem dX9_isFright_54 : decode cX9_isFright 54 = .ok (.invokestatic 71, 3) := by decide +kernel
theorem dX9_isFright_57 : decode cX9_isFright 57 = .ok (.ifCond .eq 7, 3) := by decide +kernel
theorem dX9_isFright_60 : decode cX9_isFright 60 = .ok (.iconst 1, 1) := by decide +kernel
theorem dX9_isFright_61 : decode cX9_isFright 61 = .ok (.goto 4, 3) := by decide +kernel
theorem dX9_isFright_64 : decode cX9_isFright 64 = .ok (.iconst 0, 1) := by decide +kernel
theorem dX9_isFright_65 : decode cX9_isFright 65 = .ok (.istore 4, 2) := by decide +kernel
theorem dX9_isFright_67 : decode cX9_isFright 67 = .ok (.iinc 5 1, 3) := by decide +kernel
theorem dX9_isFright_70 : decode cX9_isFright 70 = .ok (.goto (-64), 3) := by decide +kernel
theorem dX9_isFright_73 : decode cX9_isFright 73 = .ok (.iload 4, 2) := by decide +kernel
theorem dX9_isFright_75 : decode cX9_isFright 75 = .ok (.ireturn, 1) := by decide +kernel
theorem dX9_frightOf_0 : decode cX9_frightOf 0 = .ok (.iconst 0, 1) := by decide +kernel
theorem dX9_frightOf_1 : decode cX9_frightOf 1 = .ok (.istore 5, 2) := by decide +kernel
theorem dX9_frightOf_3 : decode cX9_frightOf 3 = .ok (.iconst 0, 1) := by decide +kernel
theorem dX9_frightOf_4 : decode cX9_frightOf 4 = .ok (.istore 6, 2) := by decide +kernel
theorem dX9_frightOf_6 : decode cX9_frightOf 6 = .ok (.iload 6, 2) := by decide +kernel
theorem dX9_frightOf_8 : decode cX9_frightOf 8 = .ok (.iload 4, 2) := by decide +kernel
theorem dX9_frightOf_10 : decode cX9_frightOf 10 = .ok (.if_icmp .ge 27, 3) := by decide +kernel
theorem dX9_frightOf_13 : decode cX9_frightOf 13 = .ok (.iload 5, 2) := by decide +kernel
theorem dX9_frightOf_15 : decode cX9_frightOf 15 = .ok (.aload_n 0, 1) := by decide +kernel
theorem dX9_frightOf_16 : decode cX9_frightOf 16 = .ok (.iload_n 1, 1) := by decide +kernel
theorem dX9_frightOf_17 : decode cX9_frightOf 17 = .ok (.lload_n 2, 1) := by decide +kernel
theorem dX9_frightOf_18 : decode cX9_frightOf 18 = .ok (.iload 6, 2) := by decide +kernel
theorem dX9_frightOf_20 : decode cX9_frightOf 20 = .ok (.i2l, 1) := by decide +kernel
theorem dX9_frightOf_21 : decode cX9_frightOf 21 = .ok (.ladd, 1) := by decide +kernel
theorem dX9_frightOf_22 : decode cX9_frightOf 22 = .ok (.invokevirtual 313, 3) := by decide +kernel
theorem dX9_frightOf_25 : decode cX9_frightOf 25 = .ok (.invokestatic 173, 3) := by decide +kernel
theorem dX9_frightOf_28 : decode cX9_frightOf 28 = .ok (.iadd, 1) := by decide +kernel
theorem dX9_frightOf_29 : decode cX9_frightOf 29 = .ok (.istore 5, 2) := by decide +kernel
theorem dX9_frightOf_31 : decode cX9_frightOf 31 = .ok (.iinc 6 1, 3) := by decide +kernel
theorem dX9_frightOf_34 : decode cX9_frightOf 34 = .ok (.goto (-28), 3) := by decide +kernel
theorem dX9_frightOf_37 : decode cX9_frightOf 37 = .ok (.iload 5, 2) := by decide +kernel
theorem dX9_frightOf_39 : decode cX9_frightOf 39 = .ok (.ireturn, 1) := by decide +kernel
theorem dX9_fright_0 : decode cX9_fright 0 = .ok (.iload_n 1, 1) := by decide +kernel
theorem dX9_fright_1 : decode cX9_fright 1 = .ok (.i2l, 1) := by decide +kernel
theorem dX9_fright_2 : decode cX9_fright 2 = .ok (.lconst 0, 1) := by decide +kernel
theorem dX9_fright_3 : decode cX9_fright 3 = .ok (.ldc2_w 276, 3) := by decide +kernel
theorem dX9_fright_6 : decode cX9_fright 6 = .ok (.invokestatic 71, 3) := by decide +kernel
theorem dX9_fright_9 : decode cX9_fright 9 = .ok (.ifCond .eq 23, 3) := by decide +kernel
theorem dX9_fright_12 : decode cX9_fright 12 = .ok (.lload_n 2, 1) := by decide +kernel
theorem dX9_fright_13 : decode cX9_fright 13 = .ok (.iload 4, 2) := by decide +kernel
theorem dX9_fright_15 : decode cX9_fright 15 = .ok (.invokestatic 269, 3) := by decide +kernel
theorem dX9_fright_18 : decode cX9_fright 18 = .ok (.ifCond .eq 14, 3) := by decide +kernel
theorem dX9_fright_21 : decode cX9_fright 21 = .ok (.aload_n 0, 1) := by decide +kernel
theorem dX9_fright_22 : decode cX9_fright 22 = .ok (.iload_n 1, 1) := by decide +kernel
theorem dX9_fright_23 : decode cX9_fright 23 = .ok (.lload_n 2, 1) := by decide +kernel
theorem dX9_fright_24 : decode cX9_fright 24 = .ok (.iload 4, 2) := by decide +kernel
theorem dX9_fright_26 : decode cX9_fright 26 = .ok (.invokevirtual 316, 3) := by decide +kernel
theorem dX9_fright_29 : decode cX9_fright 29 = .ok (.goto 4, 3) := by decide +kernel
theorem dX9_fright_32 : decode cX9_fright 32 = .ok (.iconst (-1), 1) := by decide +kernel
theorem dX9_fright_33 : decode cX9_fright 33 = .ok (.ireturn, 1) := by decide +kernel
theorem dX9_stand_0 : decode cX9_stand 0 = .ok (.lload_n 1, 1) := by decide +kernel
theorem dX9_stand_1 : decode cX9_stand 1 = .ok (.iload_n 3, 1) := by decide +kernel
theorem dX9_stand_2 : decode cX9_stand 2 = .ok (.invokestatic 269, 3) := by decide +kernel
theorem dX9_stand_5 : decode cX9_stand 5 = .ok (.ifCond .ne 5, 3) := by decide +kernel
theorem dX9_stand_8 : decode cX9_stand 8 = .ok (.iconst (-1), 1) := by decide +kernel
theorem dX9_stand_9 : decode cX9_stand 9 = .ok (.ireturn, 1) := by decide +kernel
theorem dX9_stand_10 : decode cX9_stand 10 = .ok (.bipush (-4), 2) := by decide +kernel
theorem dX9_stand_12 : decode cX9_stand 12 = .ok (.istore 4, 2) := by decide +kernel
theorem dX9_stand_14 : decode cX9_stand 14 = .ok (.iconst 0, 1) := by decide +kernel
theorem dX9_stand_15 : decode cX9_stand 15 = .ok (.istore 5, 2) := by decide +kernel
theorem dX9_stand_17 : decode cX9_stand 17 = .ok (.iconst 0, 1) := by decide +kernel
theorem dX9_stand_18 : decode cX9_stand 18 = .ok (.istore 6, 2) := by decide +kernel
theorem dX9_stand_20 : decode cX9_stand 20 = .ok (.iload 6, 2) := by decide +kernel
theorem dX9_stand_22 : decode cX9_stand 22 = .ok (.bipush 9, 2) := by decide +kernel
theorem dX9_stand_24 : decode cX9_stand 24 = .ok (.if_icmp .ge 68, 3) := by decide +kernel
theorem dX9_stand_27 : decode cX9_stand 27 = .ok (.aload_n 0, 1) := by decide +kernel
theorem dX9_stand_28 : decode cX9_stand 28 = .ok (.iload 6, 2) := by decide +kernel
theorem dX9_stand_30 : decode cX9_stand 30 = .ok (.lload_n 1, 1) := by decide +kernel
theorem dX9_stand_31 : decode cX9_stand 31 = .ok (.iload_n 3, 1) := by decide +kernel
theorem dX9_stand_32 : decode cX9_stand 32 = .ok (.invokevirtual 316, 3) := by decide +kernel
theorem dX9_stand_35 : decode cX9_stand 35 = .ok (.istore 7, 2) := by decide +kernel
theorem dX9_stand_37 : decode cX9_stand 37 = .ok (.iload 4, 2) := by decide +kernel
theorem dX9_stand_39 : decode cX9_stand 39 = .ok (.bipush (-4), 2) := by decide +kernel
theorem dX9_stand_41 : decode cX9_stand 41 = .ok (.if_icmp .eq 10, 3) := by decide +kernel
theorem dX9_stand_44 : decode cX9_stand 44 = .ok (.iload 7, 2) := by decide +kernel
theorem dX9_stand_46 : decode cX9_stand 46 = .ok (.iload 5, 2) := by decide +kernel
theorem dX9_stand_48 : decode cX9_stand 48 = .ok (.if_icmp .ge 7, 3) := by decide +kernel
theorem dX9_stand_51 : decode cX9_stand 51 = .ok (.iconst 1, 1) := by decide +kernel
theorem dX9_stand_52 : decode cX9_stand 52 = .ok (.goto 4, 3) := by decide +kernel
theorem dX9_stand_55 : decode cX9_stand 55 = .ok (.iconst 0, 1) := by decide +kernel
theorem dX9_stand_56 : decode cX9_stand 56 = .ok (.istore 8, 2) := by decide +kernel
theorem dX9_stand_58 : decode cX9_stand 58 = .ok (.iload 8, 2) := by decide +kernel
theorem dX9_stand_60 : decode cX9_stand 60 = .ok (.ifCond .eq 8, 3) := by decide +kernel
theorem dX9_stand_63 : decode cX9_stand 63 = .ok (.iload 6, 2) := by decide +kernel
theorem dX9_stand_65 : decode cX9_stand 65 = .ok (.goto 5, 3) := by decide +kernel
theorem dX9_stand_68 : decode cX9_stand 68 = .ok (.iload 4, 2) := by decide +kernel
theorem dX9_stand_70 : decode cX9_stand 70 = .ok (.istore 4, 2) := by decide +kernel
theorem dX9_stand_72 : decode cX9_stand 72 = .ok (.iload 8, 2) := by decide +kernel
theorem dX9_stand_74 : decode cX9_stand 74 = .ok (.ifCond .eq 8, 3) := by decide +kernel
theorem dX9_stand_77 : decode cX9_stand 77 = .ok (.iload 7, 2) := by decide +kernel
theorem dX9_stand_79 : decode cX9_stand 79 = .ok (.goto 5, 3) := by decide +kernel
theorem dX9_stand_82 : decode cX9_stand 82 = .ok (.iload 5, 2) := by decide +kernel
theorem dX9_stand_84 : decode cX9_stand 84 = .ok (.istore 5, 2) := by decide +kernel
theorem dX9_stand_86 : decode cX9_stand 86 = .ok (.iinc 6 1, 3) := by decide +kernel
theorem dX9_stand_89 : decode cX9_stand 89 = .ok (.goto (-69), 3) := by decide +kernel
theorem dX9_stand_92 : decode cX9_stand 92 = .ok (.iload 4, 2) := by decide +kernel
theorem dX9_stand_94 : decode cX9_stand 94 = .ok (.ireturn, 1) := by decide +kernel
theorem dX9_copies_0 : decode cX9_copies 0 = .ok (.iconst 0, 1) := by decide +kernel
theorem dX9_copies_1 : decode cX9_copies 1 = .ok (.istore_n 3, 1) := by decide +kernel
theorem dX9_copies_2 : decode cX9_copies 2 = .ok (.iload_n 3, 1) := by decide +kernel
theorem dX9_copies_3 : decode cX9_copies 3 = .ok (.bipush 108, 2) := by decide +kernel
theorem dX9_copies_5 : decode cX9_copies 5 = .ok (.if_icmp .ge 25, 3) := by decide +kernel
theorem dX9_copies_8 : decode cX9_copies 8 = .ok (.aload_n 0, 1) := by decide +kernel
theorem dX9_copies_9 : decode cX9_copies 9 = .ok (.getfield 7, 3) := by decide +kernel
theorem dX9_copies_12 : decode cX9_copies 12 = .ok (.iload_n 1, 1) := by decide +kernel
theorem dX9_copies_13 : decode cX9_copies 13 = .ok (.iload_n 3, 1) := by decide +kernel
theorem dX9_copies_14 : decode cX9_copies 14 = .ok (.iadd, 1) := by decide +kernel
theorem dX9_copies_15 : decode cX9_copies 15 = .ok (.aload_n 0, 1) := by decide +kernel
theorem dX9_copies_16 : decode cX9_copies 16 = .ok (.getfield 7, 3) := by decide +kernel
theorem dX9_copies_19 : decode cX9_copies 19 = .ok (.iload_n 2, 1) := by decide +kernel
theorem dX9_copies_20 : decode cX9_copies 20 = .ok (.iload_n 3, 1) := by decide +kernel
theorem dX9_copies_21 : decode cX9_copies 21 = .ok (.iadd, 1) := by decide +kernel
theorem dX9_copies_22 : decode cX9_copies 22 = .ok (.iaload, 1) := by decide +kernel
theorem dX9_copies_23 : decode cX9_copies 23 = .ok (.iastore, 1) := by decide +kernel
theorem dX9_copies_24 : decode cX9_copies 24 = .ok (.iinc 3 1, 3) := by decide +kernel
theorem dX9_copies_27 : decode cX9_copies 27 = .ok (.goto (-25), 3) := by decide +kernel
theorem dX9_copies_30 : decode cX9_copies 30 = .ok (.return_, 1) := by decide +kernel
theorem dX9_keep_0 : decode cX9_keep 0 = .ok (.iload_n 1, 1) := by decide +kernel
theorem dX9_keep_1 : decode cX9_keep 1 = .ok (.i2l, 1) := by decide +kernel
theorem dX9_keep_2 : decode cX9_keep 2 = .ok (.lconst 0, 1) := by decide +kernel
theorem dX9_keep_3 : decode cX9_keep 3 = .ok (.lconst 1, 1) := by decide +kernel
theorem dX9_keep_4 : decode cX9_keep 4 = .ok (.invokestatic 71, 3) := by decide +kernel
theorem dX9_keep_7 : decode cX9_keep 7 = .ok (.ifCond .ne 5, 3) := by decide +kernel
theorem dX9_keep_10 : decode cX9_keep 10 = .ok (.iconst (-1), 1) := by decide +kernel
theorem dX9_keep_11 : decode cX9_keep 11 = .ok (.ireturn, 1) := by decide +kernel
theorem dX9_keep_12 : decode cX9_keep 12 = .ok (.aload_n 0, 1) := by decide +kernel
theorem dX9_keep_13 : decode cX9_keep 13 = .ok (.getfield 13, 3) := by decide +kernel
theorem dX9_keep_16 : decode cX9_keep 16 = .ok (.iload_n 1, 1) := by decide +kernel
theorem dX9_keep_17 : decode cX9_keep 17 = .ok (.baload, 1) := by decide +kernel
theorem dX9_keep_18 : decode cX9_keep 18 = .ok (.invokestatic 173, 3) := by decide +kernel
theorem dX9_keep_21 : decode cX9_keep 21 = .ok (.istore_n 2, 1) := by decide +kernel
theorem dX9_keep_22 : decode cX9_keep 22 = .ok (.aload_n 0, 1) := by decide +kernel
theorem dX9_keep_23 : decode cX9_keep 23 = .ok (.getfield 13, 3) := by decide +kernel
theorem dX9_keep_26 : decode cX9_keep 26 = .ok (.iload_n 1, 1) := by decide +kernel
theorem dX9_keep_27 : decode cX9_keep 27 = .ok (.iconst 1, 1) := by decide +kernel
theorem dX9_keep_28 : decode cX9_keep 28 = .ok (.bastore, 1) := by decide +kernel
theorem dX9_keep_29 : decode cX9_keep 29 = .ok (.aload_n 0, 1) := by decide +kernel
theorem dX9_keep_30 : decode cX9_keep 30 = .ok (.bipush 108, 2) := by decide +kernel
theorem dX9_keep_32 : decode cX9_keep 32 = .ok (.iload_n 1, 1) := by decide +kernel
theorem dX9_keep_33 : decode cX9_keep 33 = .ok (.iconst 1, 1) := by decide +kernel
theorem dX9_keep_34 : decode cX9_keep 34 = .ok (.iadd, 1) := by decide +kernel
theorem dX9_keep_35 : decode cX9_keep 35 = .ok (.imul, 1) := by decide +kernel
theorem dX9_keep_36 : decode cX9_keep 36 = .ok (.iconst 0, 1) := by decide +kernel
theorem dX9_keep_37 : decode cX9_keep 37 = .ok (.invokevirtual 320, 3) := by decide +kernel
theorem dX9_keep_40 : decode cX9_keep 40 = .ok (.iload_n 2, 1) := by decide +kernel
theorem dX9_keep_41 : decode cX9_keep 41 = .ok (.ireturn, 1) := by decide +kernel
theorem dX9_back_0 : decode cX9_back 0 = .ok (.iload_n 1, 1) := by decide +kernel
theorem dX9_back_1 : decode cX9_back 1 = .ok (.i2l, 1) := by decide +kernel
theorem dX9_back_2 : decode cX9_back 2 = .ok (.lconst 0, 1) := by decide +kernel
theorem dX9_back_3 : decode cX9_back 3 = .ok (.lconst 1, 1) := by decide +kernel
theorem dX9_back_4 : decode cX9_back 4 = .ok (.invokestatic 71, 3) := by decide +kernel
theorem dX9_back_7 : decode cX9_back 7 = .ok (.ifCond .ne 5, 3) := by decide +kernel
theorem dX9_back_10 : decode cX9_back 10 = .ok (.iconst (-1), 1) := by decide +kernel
theorem dX9_back_11 : decode cX9_back 11 = .ok (.ireturn, 1) := by decide +kernel
theorem dX9_back_12 : decode cX9_back 12 = .ok (.aload_n 0, 1) := by decide +kernel
theorem dX9_back_13 : decode cX9_back 13 = .ok (.getfield 13, 3) := by decide +kernel
theorem dX9_back_16 : decode cX9_back 16 = .ok (.iload_n 1, 1) := by decide +kernel
theorem dX9_back_17 : decode cX9_back 17 = .ok (.baload, 1) := by decide +kernel
theorem dX9_back_18 : decode cX9_back 18 = .ok (.ifCond .ne 6, 3) := by decide +kernel
theorem dX9_back_21 : decode cX9_back 21 = .ok (.bipush (-2), 2) := by decide +kernel
theorem dX9_back_23 : decode cX9_back 23 = .ok (.ireturn, 1) := by decide +kernel
theorem dX9_back_24 : decode cX9_back 24 = .ok (.aload_n 0, 1) := by decide +kernel
theorem dX9_back_25 : decode cX9_back 25 = .ok (.iconst 0, 1) := by decide +kernel
theorem dX9_back_26 : decode cX9_back 26 = .ok (.bipush 108, 2) := by decide +kernel
theorem dX9_back_28 : decode cX9_back 28 = .ok (.iload_n 1, 1) := by decide +kernel
theorem dX9_back_29 : decode cX9_back 29 = .ok (.iconst 1, 1) := by decide +kernel
theorem dX9_back_30 : decode cX9_back 30 = .ok (.iadd, 1) := by decide +kernel
theorem dX9_back_31 : decode cX9_back 31 = .ok (.imul, 1) := by decide +kernel
theorem dX9_back_32 : decode cX9_back 32 = .ok (.invokevirtual 320, 3) := by decide +kernel
theorem dX9_back_35 : decode cX9_back 35 = .ok (.aload_n 0, 1) := by decide +kernel
theorem dX9_back_36 : decode cX9_back 36 = .ok (.getfield 7, 3) := by decide +kernel
theorem dX9_back_39 : decode cX9_back 39 = .ok (.iconst 0, 1) := by decide +kernel
theorem dX9_back_40 : decode cX9_back 40 = .ok (.iaload, 1) := by decide +kernel
theorem dX9_back_41 : decode cX9_back 41 = .ok (.ireturn, 1) := by decide +kernel
theorem dX9_isSheet_0 : decode cX9_isSheet 0 = .ok (.iload_n 0, 1) := by decide +kernel
theorem dX9_isSheet_1 : decode cX9_isSheet 1 = .ok (.i2l, 1) := by decide +kernel
theorem dX9_isSheet_2 : decode cX9_isSheet 2 = .ok (.lconst 0, 1) := by decide +kernel
theorem dX9_isSheet_3 : decode cX9_isSheet 3 = .ok (.ldc2_w 324, 3) := by decide +kernel
theorem dX9_isSheet_6 : decode cX9_isSheet 6 = .ok (.invokestatic 71, 3) := by decide +kernel
theorem dX9_isSheet_9 : decode cX9_isSheet 9 = .ok (.ifCond .eq 19, 3) := by decide +kernel
theorem dX9_isSheet_12 : decode cX9_isSheet 12 = .ok (.iload_n 1, 1) := by decide +kernel
theorem dX9_isSheet_13 : decode cX9_isSheet 13 = .ok (.i2l, 1) := by decide +kernel
theorem dX9_isSheet_14 : decode cX9_isSheet 14 = .ok (.lconst 0, 1) := by decide +kernel
theorem dX9_isSheet_15 : decode cX9_isSheet 15 = .ok (.ldc2_w 278, 3) := by decide +kernel
theorem dX9_isSheet_18 : decode cX9_isSheet 18 = .ok (.invokestatic 71, 3) := by decide +kernel
theorem dX9_isSheet_21 : decode cX9_isSheet 21 = .ok (.ifCond .eq 7, 3) := by decide +kernel
theorem dX9_isSheet_24 : decode cX9_isSheet 24 = .ok (.iconst 1, 1) := by decide +kernel
theorem dX9_isSheet_25 : decode cX9_isSheet 25 = .ok (.goto 4, 3) := by decide +kernel
theorem dX9_isSheet_28 : decode cX9_isSheet 28 = .ok (.iconst 0, 1) := by decide +kernel
theorem dX9_isSheet_29 : decode cX9_isSheet 29 = .ok (.ireturn, 1) := by decide +kernel
theorem dX9_sheet_0 : decode cX9_sheet 0 = .ok (.iload_n 1, 1) := by decide +kernel
theorem dX9_sheet_1 : decode cX9_sheet 1 = .ok (.iload_n 2, 1) := by decide +kernel
theorem dX9_sheet_2 : decode cX9_sheet 2 = .ok (.invokestatic 326, 3) := by decide +kernel
theorem dX9_sheet_5 : decode cX9_sheet 5 = .ok (.ifCond .eq 9, 3) := by decide +kernel
theorem dX9_sheet_8 : decode cX9_sheet 8 = .ok (.iload_n 3, 1) := by decide +kernel
theorem dX9_sheet_9 : decode cX9_sheet 9 = .ok (.bipush 40, 2) := by decide +kernel
theorem dX9_sheet_11 : decode cX9_sheet 11 = .ok (.if_icmp .le 5, 3) := by decide +kernel
theorem dX9_sheet_14 : decode cX9_sheet 14 = .ok (.iconst (-1), 1) := by decide +kernel
theorem dX9_sheet_15 : decode cX9_sheet 15 = .ok (.ireturn, 1) := by decide +kernel
theorem dX9_sheet_16 : decode cX9_sheet 16 = .ok (.iload_n 3, 1) := by decide +kernel
theorem dX9_sheet_17 : decode cX9_sheet 17 = .ok (.ifCond .ge 6, 3) := by decide +kernel
theorem dX9_sheet_20 : decode cX9_sheet 20 = .ok (.bipush (-14), 2) := by decide +kernel
theorem dX9_sheet_22 : decode cX9_sheet 22 = .ok (.ireturn, 1) := by decide +kernel
theorem dX9_sheet_23 : decode cX9_sheet 23 = .ok (.aload_n 0, 1) := by decide +kernel
theorem dX9_sheet_24 : decode cX9_sheet 24 = .ok (.getfield 34, 3) := by decide +kernel
theorem dX9_sheet_27 : decode cX9_sheet 27 = .ok (.iload_n 1, 1) := by decide +kernel
theorem dX9_sheet_28 : decode cX9_sheet 28 = .ok (.iload_n 2, 1) := by decide +kernel
theorem dX9_sheet_29 : decode cX9_sheet 29 = .ok (.iastore, 1) := by decide +kernel
theorem dX9_sheet_30 : decode cX9_sheet 30 = .ok (.aload_n 0, 1) := by decide +kernel
theorem dX9_sheet_31 : decode cX9_sheet 31 = .ok (.getfield 37, 3) := by decide +kernel
theorem dX9_sheet_34 : decode cX9_sheet 34 = .ok (.iload_n 1, 1) := by decide +kernel
theorem dX9_sheet_35 : decode cX9_sheet 35 = .ok (.iload_n 3, 1) := by decide +kernel
theorem dX9_sheet_36 : decode cX9_sheet 36 = .ok (.iastore, 1) := by decide +kernel
theorem dX9_sheet_37 : decode cX9_sheet 37 = .ok (.iconst 0, 1) := by decide +kernel
theorem dX9_sheet_38 : decode cX9_sheet 38 = .ok (.istore 4, 2) := by decide +kernel
theorem dX9_sheet_40 : decode cX9_sheet 40 = .ok (.iload 4, 2) := by decide +kernel
theorem dX9_sheet_42 : decode cX9_sheet 42 = .ok (.bipush 40, 2) := by decide +kernel
theorem dX9_sheet_44 : decode cX9_sheet 44 = .ok (.if_icmp .ge 22, 3) := by decide +kernel
theorem dX9_sheet_47 : decode cX9_sheet 47 = .ok (.aload_n 0, 1) := by decide +kernel
theorem dX9_sheet_48 : decode cX9_sheet 48 = .ok (.getfield 40, 3) := by decide +kernel
theorem dX9_sheet_51 : decode cX9_sheet 51 = .ok (.bipush 40, 2) := by decide +kernel
theorem dX9_sheet_53 : decode cX9_sheet 53 = .ok (.iload_n 1, 1) := by decide +kernel
theorem dX9_sheet_54 : decode cX9_sheet 54 = .ok (.imul, 1) := by decide +kernel
theorem dX9_sheet_55 : decode cX9_sheet 55 = .ok (.iload 4, 2) := by decide +kernel
theorem dX9_sheet_57 : decode cX9_sheet 57 = .ok (.iadd, 1) := by decide +kernel
theorem dX9_sheet_58 : decode cX9_sheet 58 = .ok (.iconst 0, 1) := by decide +kernel
theorem dX9_sheet_59 : decode cX9_sheet 59 = .ok (.iastore, 1) := by decide +kernel
theorem dX9_sheet_60 : decode cX9_sheet 60 = .ok (.iinc 4 1, 3) := by decide +kernel
theorem dX9_sheet_63 : decode cX9_sheet 63 = .ok (.goto (-23), 3) := by decide +kernel
theorem dX9_sheet_66 : decode cX9_sheet 66 = .ok (.iconst 1, 1) := by decide +kernel
theorem dX9_sheet_67 : decode cX9_sheet 67 = .ok (.ireturn, 1) := by decide +kernel
theorem dX9_lay_0 : decode cX9_lay 0 = .ok (.iload_n 1, 1) := by decide +kernel
theorem dX9_lay_1 : decode cX9_lay 1 = .ok (.iconst 0, 1) := by decide +kernel
theorem dX9_lay_2 : decode cX9_lay 2 = .ok (.invokestatic 326, 3) := by decide +kernel
theorem dX9_lay_5 : decode cX9_lay 5 = .ok (.ifCond .ne 5, 3) := by decide +kernel
theorem dX9_lay_8 : decode cX9_lay 8 = .ok (.iconst (-1), 1) := by decide +kernel
theorem dX9_lay_9 : decode cX9_lay 9 = .ok (.ireturn, 1) := by decide +kernel
theorem dX9_lay_10 : decode cX9_lay 10 = .ok (.aload_n 0, 1) := by decide +kernel
theorem dX9_lay_11 : decode cX9_lay 11 = .ok (.getfield 34, 3) := by decide +kernel
theorem dX9_lay_14 : decode cX9_lay 14 = .ok (.iload_n 1, 1) := by decide +kernel
theorem dX9_lay_15 : decode cX9_lay 15 = .ok (.iaload, 1) := by decide +kernel
theorem dX9_lay_16 : decode cX9_lay 16 = .ok (.bipush (-4), 2) := by decide +kernel
theorem dX9_lay_18 : decode cX9_lay 18 = .ok (.if_icmp .ne 6, 3) := by decide +kernel
theorem dX9_lay_21 : decode cX9_lay 21 = .ok (.bipush (-11), 2) := by decide +kernel
theorem dX9_lay_23 : decode cX9_lay 23 = .ok (.ireturn, 1) := by decide +kernel
theorem dX9_lay_24 : decode cX9_lay 24 = .ok (.iload_n 2, 1) := by decide +kernel
theorem dX9_lay_25 : decode cX9_lay 25 = .ok (.i2l, 1) := by decide +kernel
theorem dX9_lay_26 : decode cX9_lay 26 = .ok (.lconst 0, 1) := by decide +kernel
theorem dX9_lay_27 : decode cX9_lay 27 = .ok (.aload_n 0, 1) := by decide +kernel
theorem dX9_lay_28 : decode cX9_lay 28 = .ok (.getfield 37, 3) := by decide +kernel
theorem dX9_lay_31 : decode cX9_lay 31 = .ok (.iload_n 1, 1) := by decide +kernel
theorem dX9_lay_32 : decode cX9_lay 32 = .ok (.iaload, 1) := by decide +kernel
theorem dX9_lay_33 : decode cX9_lay 33 = .ok (.iconst 1, 1) := by decide +kernel
theorem dX9_lay_34 : decode cX9_lay 34 = .ok (.isub, 1) := by decide +kernel
theorem dX9_lay_35 : decode cX9_lay 35 = .ok (.i2l, 1) := by decide +kernel
theorem dX9_lay_36 : decode cX9_lay 36 = .ok (.invokestatic 71, 3) := by decide +kernel
theorem dX9_lay_39 : decode cX9_lay 39 = .ok (.ifCond .ne 6, 3) := by decide +kernel
theorem dX9_lay_42 : decode cX9_lay 42 = .ok (.bipush (-12), 2) := by decide +kernel
theorem dX9_lay_44 : decode cX9_lay 44 = .ok (.ireturn, 1) := by decide +kernel
theorem dX9_lay_45 : decode cX9_lay 45 = .ok (.aload_n 0, 1) := by decide +kernel
theorem dX9_lay_46 : decode cX9_lay 46 = .ok (.getfield 40, 3) := by decide +kernel
theorem dX9_lay_49 : decode cX9_lay 49 = .ok (.bipush 40, 2) := by decide +kernel
theorem dX9_lay_51 : decode cX9_lay 51 = .ok (.iload_n 1, 1) := by decide +kernel
theorem dX9_lay_52 : decode cX9_lay 52 = .ok (.imul, 1) := by decide +kernel
theorem dX9_lay_53 : decode cX9_lay 53 = .ok (.iload_n 2, 1) := by decide +kernel
theorem dX9_lay_54 : decode cX9_lay 54 = .ok (.iadd, 1) := by decide +kernel
theorem dX9_lay_55 : decode cX9_lay 55 = .ok (.aload_n 0, 1) := by decide +kernel
theorem dX9_lay_56 : decode cX9_lay 56 = .ok (.getfield 34, 3) := by decide +kernel
theorem dX9_lay_59 : decode cX9_lay 59 = .ok (.iload_n 1, 1) := by decide +kernel
theorem dX9_lay_60 : decode cX9_lay 60 = .ok (.iaload, 1) := by decide +kernel
theorem dX9_lay_61 : decode cX9_lay 61 = .ok (.ifCond .ne 8, 3) := by decide +kernel
theorem dX9_lay_64 : decode cX9_lay 64 = .ok (.iload_n 3, 1) := by decide +kernel
theorem dX9_lay_65 : decode cX9_lay 65 = .ok (.i2b, 1) := by decide +kernel
theorem dX9_lay_66 : decode cX9_lay 66 = .ok (.goto 19, 3) := by decide +kernel
theorem dX9_lay_69 : decode cX9_lay 69 = .ok (.aload_n 0, 1) := by decide +kernel
theorem dX9_lay_70 : decode cX9_lay 70 = .ok (.getfield 34, 3) := by decide +kernel
theorem dX9_lay_73 : decode cX9_lay 73 = .ok (.iload_n 1, 1) := by decide +kernel
theorem dX9_lay_74 : decode cX9_lay 74 = .ok (.iaload, 1) := by decide +kernel
theorem dX9_lay_75 : decode cX9_lay 75 = .ok (.iconst 1, 1) := by decide +kernel
theorem dX9_lay_76 : decode cX9_lay 76 = .ok (.if_icmp .ne 8, 3) := by decide +kernel
theorem dX9_lay_79 : decode cX9_lay 79 = .ok (.iload_n 3, 1) := by decide +kernel
theorem dX9_lay_80 : decode cX9_lay 80 = .ok (.i2s, 1) := by decide +kernel
theorem dX9_lay_81 : decode cX9_lay 81 = .ok (.goto 4, 3) := by decide +kernel
theorem dX9_lay_84 : decode cX9_lay 84 = .ok (.iload_n 3, 1) := by decide +kernel
theorem dX9_lay_85 : decode cX9_lay 85 = .ok (.iastore, 1) := by decide +kernel
theorem dX9_lay_86 : decode cX9_lay 86 = .ok (.iconst 1, 1) := by decide +kernel
theorem dX9_lay_87 : decode cX9_lay 87 = .ok (.ireturn, 1) := by decide +kernel
theorem dX9_read_0 : decode cX9_read 0 = .ok (.iload_n 1, 1) := by decide +kernel
theorem dX9_read_1 : decode cX9_read 1 = .ok (.iload_n 2, 1) := by decide +kernel
theorem dX9_read_2 : decode cX9_read 2 = .ok (.invokestatic 326, 3) := by decide +kernel
theorem dX9_read_5 : decode cX9_read 5 = .ok (.ifCond .eq 16, 3) := by decide +kernel
theorem dX9_read_8 : decode cX9_read 8 = .ok (.iload 4, 2) := by decide +kernel
theorem dX9_read_10 : decode cX9_read 10 = .ok (.i2l, 1) := by decide +kernel
theorem dX9_read_11 : decode cX9_read 11 = .ok (.lconst 0, 1) := by decide +kernel
theorem dX9_read_12 : decode cX9_read 12 = .ok (.ldc2_w 329, 3) := by decide +kernel
theorem dX9_read_15 : decode cX9_read 15 = .ok (.invokestatic 71, 3) := by decide +kernel
theorem dX9_read_18 : decode cX9_read 18 = .ok (.ifCond .ne 5, 3) := by decide +kernel
theorem dX9_read_21 : decode cX9_read 21 = .ok (.iconst (-1), 1) := by decide +kernel
theorem dX9_read_22 : decode cX9_read 22 = .ok (.ireturn, 1) := by decide +kernel
theorem dX9_read_23 : decode cX9_read 23 = .ok (.aload_n 0, 1) := by decide +kernel
theorem dX9_read_24 : decode cX9_read 24 = .ok (.getfield 7, 3) := by decide +kernel
theorem dX9_read_27 : decode cX9_read 27 = .ok (.bipush 71, 2) := by decide +kernel
theorem dX9_read_29 : decode cX9_read 29 = .ok (.iaload, 1) := by decide +kernel
theorem dX9_read_30 : decode cX9_read 30 = .ok (.istore 5, 2) := by decide +kernel
theorem dX9_read_32 : decode cX9_read 32 = .ok (.iconst 0, 1) := by decide +kernel
theorem dX9_read_33 : decode cX9_read 33 = .ok (.istore 6, 2) := by decide +kernel
theorem dX9_read_35 : decode cX9_read 35 = .ok (.iconst 0, 1) := by decide +kernel
theorem dX9_read_36 : decode cX9_read 36 = .ok (.istore 7, 2) := by decide +kernel
theorem dX9_read_38 : decode cX9_read 38 = .ok (.iconst 0, 1) := by decide +kernel
theorem dX9_read_39 : decode cX9_read 39 = .ok (.istore 8, 2) := by decide +kernel
theorem dX9_read_41 : decode cX9_read 41 = .ok (.iload 8, 2) := by decide +kernel
theorem dX9_read_43 : decode cX9_read 43 = .ok (.iload 4, 2) := by decide +kernel
theorem dX9_read_45 : decode cX9_read 45 = .ok (.if_icmp .ge 199, 3) := by decide +kernel
theorem dX9_read_48 : decode cX9_read 48 = .ok (.iload 6, 2) := by decide +kernel
theorem dX9_read_50 : decode cX9_read 50 = .ok (.ifCond .ne 194, 3) := by decide +kernel
theorem dX9_read_53 : decode cX9_read 53 = .ok (.iconst 0, 1) := by decide +kernel
theorem dX9_read_54 : decode cX9_read 54 = .ok (.istore 9, 2) := by decide +kernel
theorem dX9_read_56 : decode cX9_read 56 = .ok (.iload 9, 2) := by decide +kernel
theorem dX9_read_58 : decode cX9_read 58 = .ok (.iconst 3, 1) := by decide +kernel
theorem dX9_read_59 : decode cX9_read 59 = .ok (.if_icmp .ge 84, 3) := by decide +kernel
theorem dX9_read_62 : decode cX9_read 62 = .ok (.iload 6, 2) := by decide +kernel
theorem dX9_read_64 : decode cX9_read 64 = .ok (.ifCond .ne 79, 3) := by decide +kernel
theorem dX9_read_67 : decode cX9_read 67 = .ok (.iload_n 3, 1) := by decide +kernel
theorem dX9_read_68 : decode cX9_read 68 = .ok (.i2l, 1) := by decide +kernel
theorem dX9_read_69 : decode cX9_read 69 = .ok (.iconst 3, 1) := by decide +kernel
theorem dX9_read_70 : decode cX9_read 70 = .ok (.iload 8, 2) := by decide +kernel
theorem dX9_read_72 : decode cX9_read 72 = .ok (.imul, 1) := by decide +kernel
theorem dX9_read_73 : decode cX9_read 73 = .ok (.i2l, 1) := by decide +kernel
theorem dX9_read_74 : decode cX9_read 74 = .ok (.ladd, 1) := by decide +kernel
theorem dX9_read_75 : decode cX9_read 75 = .ok (.iload 9, 2) := by decide +kernel
theorem dX9_read_77 : decode cX9_read 77 = .ok (.i2l, 1) := by decide +kernel
theorem dX9_read_78 : decode cX9_read 78 = .ok (.ladd, 1) := by decide +kernel
theorem dX9_read_79 : decode cX9_read 79 = .ok (.lstore 10, 2) := by decide +kernel
theorem dX9_read_81 : decode cX9_read 81 = .ok (.aload_n 0, 1) := by decide +kernel
theorem dX9_read_82 : decode cX9_read 82 = .ok (.getfield 34, 3) := by decide +kernel
theorem dX9_read_85 : decode cX9_read 85 = .ok (.iload_n 1, 1) := by decide +kernel
theorem dX9_read_86 : decode cX9_read 86 = .ok (.iaload, 1) := by decide +kernel
theorem dX9_read_87 : decode cX9_read 87 = .ok (.bipush (-4), 2) := by decide +kernel
theorem dX9_read_89 : decode cX9_read 89 = .ok (.if_icmp .ne 7, 3) := by decide +kernel
theorem dX9_read_92 : decode cX9_read 92 = .ok (.iconst 1, 1) := by decide +kernel
theorem dX9_read_93 : decode cX9_read 93 = .ok (.goto 42, 3) := by decide +kernel
theorem dX9_read_96 : decode cX9_read 96 = .ok (.aload_n 0, 1) := by decide +kernel
theorem dX9_read_97 : decode cX9_read 97 = .ok (.getfield 34, 3) := by decide +kernel
theorem dX9_read_100 : decode cX9_read 100 = .ok (.iload_n 1, 1) := by decide +kernel
theorem dX9_read_101 : decode cX9_read 101 = .ok (.iaload, 1) := by decide +kernel
theorem dX9_read_102 : decode cX9_read 102 = .ok (.iload_n 2, 1) := by decide +kernel
theorem dX9_read_103 : decode cX9_read 103 = .ok (.if_icmp .eq 7, 3) := by decide +kernel
theorem dX9_read_106 : decode cX9_read 106 = .ok (.iconst 3, 1) := by decide +kernel
theorem dX9_read_107 : decode cX9_read 107 = .ok (.goto 28, 3) := by decide +kernel
theorem dX9_read_110 : decode cX9_read 110 = .ok (.lload 10, 2) := by decide +kernel
theorem dX9_read_112 : decode cX9_read 112 = .ok (.lconst 0, 1) := by decide +kernel
theorem dX9_read_113 : decode cX9_read 113 = .ok (.lcmp, 1) := by decide +kernel
theorem dX9_read_114 : decode cX9_read 114 = .ok (.ifCond .lt 16, 3) := by decide +kernel
theorem dX9_read_117 : decode cX9_read 117 = .ok (.lload 10, 2) := by decide +kernel
theorem dX9_read_119 : decode cX9_read 119 = .ok (.aload_n 0, 1) := by decide +kernel
theorem dX9_read_120 : decode cX9_read 120 = .ok (.getfield 37, 3) := by decide +kernel
theorem dX9_read_123 : decode cX9_read 123 = .ok (.iload_n 1, 1) := by decide +kernel
theorem dX9_read_124 : decode cX9_read 124 = .ok (.iaload, 1) := by decide +kernel
theorem dX9_read_125 : decode cX9_read 125 = .ok (.i2l, 1) := by decide +kernel
theorem dX9_read_126 : decode cX9_read 126 = .ok (.lcmp, 1) := by decide +kernel
theorem dX9_read_127 : decode cX9_read 127 = .ok (.ifCond .lt 7, 3) := by decide +kernel
theorem dX9_read_130 : decode cX9_read 130 = .ok (.iconst 2, 1) := by decide +kernel
theorem dX9_read_131 : decode cX9_read 131 = .ok (.goto 4, 3) := by decide +kernel
theorem dX9_read_134 : decode cX9_read 134 = .ok (.iconst 0, 1) := by decide +kernel
theorem dX9_read_135 : decode cX9_read 135 = .ok (.istore 6, 2) := by decide +kernel
theorem dX9_read_137 : decode cX9_read 137 = .ok (.iinc 9 1, 3) := by decide +kernel
theorem dX9_read_140 : decode cX9_read 140 = .ok (.goto (-84), 3) := by decide +kernel
theorem dX9_read_143 : decode cX9_read 143 = .ok (.iload 6, 2) := by decide +kernel
theorem dX9_read_145 : decode cX9_read 145 = .ok (.ifCond .ne 93, 3) := by decide +kernel
theorem dX9_read_148 : decode cX9_read 148 = .ok (.bipush 40, 2) := by decide +kernel
theorem dX9_read_150 : decode cX9_read 150 = .ok (.iload_n 1, 1) := by decide +kernel
theorem dX9_read_151 : decode cX9_read 151 = .ok (.imul, 1) := by decide +kernel
theorem dX9_read_152 : decode cX9_read 152 = .ok (.iload_n 3, 1) := by decide +kernel
theorem dX9_read_153 : decode cX9_read 153 = .ok (.iadd, 1) := by decide +kernel
theorem dX9_read_154 : decode cX9_read 154 = .ok (.iconst 3, 1) := by decide +kernel
theorem dX9_read_155 : decode cX9_read 155 = .ok (.iload 8, 2) := by decide +kernel
theorem dX9_read_157 : decode cX9_read 157 = .ok (.imul, 1) := by decide +kernel
theorem dX9_read_158 : decode cX9_read 158 = .ok (.iadd, 1) := by decide +kernel
theorem dX9_read_159 : decode cX9_read 159 = .ok (.istore 9, 2) := by decide +kernel
theorem dX9_read_161 : decode cX9_read 161 = .ok (.aload_n 0, 1) := by decide +kernel
theorem dX9_read_162 : decode cX9_read 162 = .ok (.getfield 40, 3) := by decide +kernel
theorem dX9_read_165 : decode cX9_read 165 = .ok (.iload 9, 2) := by decide +kernel
theorem dX9_read_167 : decode cX9_read 167 = .ok (.iconst 2, 1) := by decide +kernel
theorem dX9_read_168 : decode cX9_read 168 = .ok (.iadd, 1) := by decide +kernel
theorem dX9_read_169 : decode cX9_read 169 = .ok (.iaload, 1) := by decide +kernel
theorem dX9_read_170 : decode cX9_read 170 = .ok (.i2l, 1) := by decide +kernel
theorem dX9_read_171 : decode cX9_read 171 = .ok (.lconst 0, 1) := by decide +kernel
theorem dX9_read_172 : decode cX9_read 172 = .ok (.lconst 1, 1) := by decide +kernel
theorem dX9_read_173 : decode cX9_read 173 = .ok (.invokestatic 71, 3) := by decide +kernel
theorem dX9_read_176 : decode cX9_read 176 = .ok (.ifCond .eq 44, 3) := by decide +kernel
theorem dX9_read_179 : decode cX9_read 179 = .ok (.aload_n 0, 1) := by decide +kernel
theorem dX9_read_180 : decode cX9_read 180 = .ok (.aload_n 0, 1) := by decide +kernel
theorem dX9_read_181 : decode cX9_read 181 = .ok (.getfield 40, 3) := by decide +kernel
theorem dX9_read_184 : decode cX9_read 184 = .ok (.iload 9, 2) := by decide +kernel
theorem dX9_read_186 : decode cX9_read 186 = .ok (.iaload, 1) := by decide +kernel
theorem dX9_read_187 : decode cX9_read 187 = .ok (.aload_n 0, 1) := by decide +kernel
theorem dX9_read_188 : decode cX9_read 188 = .ok (.getfield 40, 3) := by decide +kernel
theorem dX9_read_191 : decode cX9_read 191 = .ok (.iload 9, 2) := by decide +kernel
theorem dX9_read_193 : decode cX9_read 193 = .ok (.iconst 1, 1) := by decide +kernel
theorem dX9_read_194 : decode cX9_read 194 = .ok (.iadd, 1) := by decide +kernel
theorem dX9_read_195 : decode cX9_read 195 = .ok (.iaload, 1) := by decide +kernel
theorem dX9_read_196 : decode cX9_read 196 = .ok (.aload_n 0, 1) := by decide +kernel
theorem dX9_read_197 : decode cX9_read 197 = .ok (.getfield 40, 3) := by decide +kernel
theorem dX9_read_200 : decode cX9_read 200 = .ok (.iload 9, 2) := by decide +kernel
theorem dX9_read_202 : decode cX9_read 202 = .ok (.iconst 2, 1) := by decide +kernel
theorem dX9_read_203 : decode cX9_read 203 = .ok (.iadd, 1) := by decide +kernel
theorem dX9_read_204 : decode cX9_read 204 = .ok (.iaload, 1) := by decide +kernel
theorem dX9_read_205 : decode cX9_read 205 = .ok (.iconst 1, 1) := by decide +kernel
theorem dX9_read_206 : decode cX9_read 206 = .ok (.if_icmp .ne 7, 3) := by decide +kernel
theorem dX9_read_209 : decode cX9_read 209 = .ok (.iconst 1, 1) := by decide +kernel
theorem dX9_read_210 : decode cX9_read 210 = .ok (.goto 4, 3) := by decide +kernel
theorem dX9_read_213 : decode cX9_read 213 = .ok (.iconst 0, 1) := by decide +kernel
theorem dX9_read_214 : decode cX9_read 214 = .ok (.invokevirtual 331, 3) := by decide +kernel
theorem dX9_read_217 : decode cX9_read 217 = .ok (.ifCond .ge 18, 3) := by decide +kernel
theorem dX9_read_220 : decode cX9_read 220 = .ok (.aload_n 0, 1) := by decide +kernel
theorem dX9_read_221 : decode cX9_read 221 = .ok (.getfield 7, 3) := by decide +kernel
theorem dX9_read_224 : decode cX9_read 224 = .ok (.bipush 71, 2) := by decide +kernel
theorem dX9_read_226 : decode cX9_read 226 = .ok (.iload 5, 2) := by decide +kernel
theorem dX9_read_228 : decode cX9_read 228 = .ok (.iastore, 1) := by decide +kernel
theorem dX9_read_229 : decode cX9_read 229 = .ok (.bipush (-20), 2) := by decide +kernel
theorem dX9_read_231 : decode cX9_read 231 = .ok (.iload 8, 2) := by decide +kernel
theorem dX9_read_233 : decode cX9_read 233 = .ok (.isub, 1) := by decide +kernel
theorem dX9_read_234 : decode cX9_read 234 = .ok (.ireturn, 1) := by decide +kernel
theorem dX9_read_235 : decode cX9_read 235 = .ok (.iinc 7 1, 3) := by decide +kernel
theorem dX9_read_238 : decode cX9_read 238 = .ok (.iinc 8 1, 3) := by decide +kernel
theorem dX9_read_241 : decode cX9_read 241 = .ok (.goto (-200), 3) := by decide +kernel
theorem dX9_read_244 : decode cX9_read 244 = .ok (.aload_n 0, 1) := by decide +kernel
theorem dX9_read_245 : decode cX9_read 245 = .ok (.iload 6, 2) := by decide +kernel
theorem dX9_read_247 : decode cX9_read 247 = .ok (.putfield 335, 3) := by decide +kernel
theorem dX9_read_250 : decode cX9_read 250 = .ok (.iload 7, 2) := by decide +kernel
theorem dX9_read_252 : decode cX9_read 252 = .ok (.ireturn, 1) := by decide +kernel
theorem dX9_torn_0 : decode cX9_torn 0 = .ok (.aload_n 0, 1) := by decide +kernel
theorem dX9_torn_1 : decode cX9_torn 1 = .ok (.getfield 335, 3) := by decide +kernel
theorem dX9_torn_4 : decode cX9_torn 4 = .ok (.ireturn, 1) := by decide +kernel
theorem dX9_count_0 : decode cX9_count 0 = .ok (.iload_n 1, 1) := by decide +kernel
theorem dX9_count_1 : decode cX9_count 1 = .ok (.tableswitch 99 0 4 #[35, 43, 51, 71, 76], 35) := by decide +kernel
theorem dX9_count_36 : decode cX9_count 36 = .ok (.aload_n 0, 1) := by decide +kernel
theorem dX9_count_37 : decode cX9_count 37 = .ok (.invokevirtual 297, 3) := by decide +kernel
theorem dX9_count_40 : decode cX9_count 40 = .ok (.invokestatic 300, 3) := by decide +kernel
theorem dX9_count_43 : decode cX9_count 43 = .ok (.ireturn, 1) := by decide +kernel
theorem dX9_count_44 : decode cX9_count 44 = .ok (.aload_n 0, 1) := by decide +kernel
theorem dX9_count_45 : decode cX9_count 45 = .ok (.getfield 7, 3) := by decide +kernel
theorem dX9_count_48 : decode cX9_count 48 = .ok (.bipush 71, 2) := by decide +kernel
theorem dX9_count_50 : decode cX9_count 50 = .ok (.iaload, 1) := by decide +kernel
theorem dX9_count_51 : decode cX9_count 51 = .ok (.ireturn, 1) := by decide +kernel
theorem dX9_count_52 : decode cX9_count 52 = .ok (.aload_n 0, 1) := by decide +kernel
theorem dX9_count_53 : decode cX9_count 53 = .ok (.getfield 13, 3) := by decide +kernel
theorem dX9_count_56 : decode cX9_count 56 = .ok (.iconst 0, 1) := by decide +kernel
theorem dX9_count_57 : decode cX9_count 57 = .ok (.baload, 1) := by decide +kernel
theorem dX9_count_58 : decode cX9_count 58 = .ok (.invokestatic 173, 3) := by decide +kernel
theorem dX9_count_61 : decode cX9_count 61 = .ok (.aload_n 0, 1) := by decide +kernel
theorem dX9_count_62 : decode cX9_count 62 = .ok (.getfield 13, 3) := by decide +kernel
theorem dX9_count_65 : decode cX9_count 65 = .ok (.iconst 1, 1) := by decide +kernel
theorem dX9_count_66 : decode cX9_count 66 = .ok (.baload, 1) := by decide +kernel
theorem dX9_count_67 : decode cX9_count 67 = .ok (.invokestatic 173, 3) := by decide +kernel
theorem dX9_count_70 : decode cX9_count 70 = .ok (.iadd, 1) := by decide +kernel
theorem dX9_count_71 : decode cX9_count 71 = .ok (.ireturn, 1) := by decide +kernel
theorem dX9_count_72 : decode cX9_count 72 = .ok (.aload_n 0, 1) := by decide +kernel
theorem dX9_count_73 : decode cX9_count 73 = .ok (.getfield 66, 3) := by decide +kernel
theorem dX9_count_76 : decode cX9_count 76 = .ok (.ireturn, 1) := by decide +kernel
theorem dX9_count_77 : decode cX9_count 77 = .ok (.aload_n 0, 1) := by decide +kernel
theorem dX9_count_78 : decode cX9_count 78 = .ok (.getfield 34, 3) := by decide +kernel
theorem dX9_count_81 : decode cX9_count 81 = .ok (.iconst 0, 1) := by decide +kernel
theorem dX9_count_82 : decode cX9_count 82 = .ok (.iaload, 1) := by decide +kernel
theorem dX9_count_83 : decode cX9_count 83 = .ok (.bipush (-4), 2) := by decide +kernel
theorem dX9_count_85 : decode cX9_count 85 = .ok (.if_icmp .ne 8, 3) := by decide +kernel
theorem dX9_count_88 : decode cX9_count 88 = .ok (.bipush (-4), 2) := by decide +kernel
theorem dX9_count_90 : decode cX9_count 90 = .ok (.goto 9, 3) := by decide +kernel
theorem dX9_count_93 : decode cX9_count 93 = .ok (.aload_n 0, 1) := by decide +kernel
theorem dX9_count_94 : decode cX9_count 94 = .ok (.getfield 37, 3) := by decide +kernel
theorem dX9_count_97 : decode cX9_count 97 = .ok (.iconst 0, 1) := by decide +kernel
theorem dX9_count_98 : decode cX9_count 98 = .ok (.iaload, 1) := by decide +kernel
theorem dX9_count_99 : decode cX9_count 99 = .ok (.ireturn, 1) := by decide +kernel
theorem dX9_count_100 : decode cX9_count 100 = .ok (.iconst (-1), 1) := by decide +kernel
theorem dX9_count_101 : decode cX9_count 101 = .ok (.ireturn, 1) := by decide +kernel
theorem dJ13_bitCount_95d88_0 : decode cJ13_bitCount_95d88 0 = .ok (.lload_n 0, 1) := by decide +kernel
theorem dJ13_bitCount_95d88_1 : decode cJ13_bitCount_95d88 1 = .ok (.lload_n 0, 1) := by decide +kernel
theorem dJ13_bitCount_95d88_2 : decode cJ13_bitCount_95d88 2 = .ok (.iconst 1, 1) := by decide +kernel
theorem dJ13_bitCount_95d88_3 : decode cJ13_bitCount_95d88 3 = .ok (.lushr, 1) := by decide +kernel
theorem dJ13_bitCount_95d88_4 : decode cJ13_bitCount_95d88 4 = .ok (.ldc2_w 314, 3) := by decide +kernel
theorem dJ13_bitCount_95d88_7 : decode cJ13_bitCount_95d88 7 = .ok (.land, 1) := by decide +kernel
theorem dJ13_bitCount_95d88_8 : decode cJ13_bitCount_95d88 8 = .ok (.lsub, 1) := by decide +kernel
theorem dJ13_bitCount_95d88_9 : decode cJ13_bitCount_95d88 9 = .ok (.lstore_n 0, 1) := by decide +kernel
theorem dJ13_bitCount_95d88_10 : decode cJ13_bitCount_95d88 10 = .ok (.lload_n 0, 1) := by decide +kernel
theorem dJ13_bitCount_95d88_11 : decode cJ13_bitCount_95d88 11 = .ok (.ldc2_w 316, 3) := by decide +kernel
theorem dJ13_bitCount_95d88_14 : decode cJ13_bitCount_95d88 14 = .ok (.land, 1) := by decide +kernel
theorem dJ13_bitCount_95d88_15 : decode cJ13_bitCount_95d88 15 = .ok (.lload_n 0, 1) := by decide +kernel
theorem dJ13_bitCount_95d88_16 : decode cJ13_bitCount_95d88 16 = .ok (.iconst 2, 1) := by decide +kernel
theorem dJ13_bitCount_95d88_17 : decode cJ13_bitCount_95d88 17 = .ok (.lushr, 1) := by decide +kernel
theorem dJ13_bitCount_95d88_18 : decode cJ13_bitCount_95d88 18 = .ok (.ldc2_w 316, 3) := by decide +kernel
theorem dJ13_bitCount_95d88_21 : decode cJ13_bitCount_95d88 21 = .ok (.land, 1) := by decide +kernel
theorem dJ13_bitCount_95d88_22 : decode cJ13_bitCount_95d88 22 = .ok (.ladd, 1) := by decide +kernel
theorem dJ13_bitCount_95d88_23 : decode cJ13_bitCount_95d88 23 = .ok (.lstore_n 0, 1) := by decide +kernel
theorem dJ13_bitCount_95d88_24 : decode cJ13_bitCount_95d88 24 = .ok (.lload_n 0, 1) := by decide +kernel
theorem dJ13_bitCount_95d88_25 : decode cJ13_bitCount_95d88 25 = .ok (.lload_n 0, 1) := by decide +kernel
theorem dJ13_bitCount_95d88_26 : decode cJ13_bitCount_95d88 26 = .ok (.iconst 4, 1) := by decide +kernel
theorem dJ13_bitCount_95d88_27 : decode cJ13_bitCount_95d88 27 = .ok (.lushr, 1) := by decide +kernel
theorem dJ13_bitCount_95d88_28 : decode cJ13_bitCount_95d88 28 = .ok (.ladd, 1) := by decide +kernel
theorem dJ13_bitCount_95d88_29 : decode cJ13_bitCount_95d88 29 = .ok (.ldc2_w 318, 3) := by decide +kernel
theorem dJ13_bitCount_95d88_32 : decode cJ13_bitCount_95d88 32 = .ok (.land, 1) := by decide +kernel
theorem dJ13_bitCount_95d88_33 : decode cJ13_bitCount_95d88 33 = .ok (.lstore_n 0, 1) := by decide +kernel
theorem dJ13_bitCount_95d88_34 : decode cJ13_bitCount_95d88 34 = .ok (.lload_n 0, 1) := by decide +kernel
theorem dJ13_bitCount_95d88_35 : decode cJ13_bitCount_95d88 35 = .ok (.lload_n 0, 1) := by decide +kernel
theorem dJ13_bitCount_95d88_36 : decode cJ13_bitCount_95d88 36 = .ok (.bipush 8, 2) := by decide +kernel
theorem dJ13_bitCount_95d88_38 : decode cJ13_bitCount_95d88 38 = .ok (.lushr, 1) := by decide +kernel
theorem dJ13_bitCount_95d88_39 : decode cJ13_bitCount_95d88 39 = .ok (.ladd, 1) := by decide +kernel
theorem dJ13_bitCount_95d88_40 : decode cJ13_bitCount_95d88 40 = .ok (.lstore_n 0, 1) := by decide +kernel
theorem dJ13_bitCount_95d88_41 : decode cJ13_bitCount_95d88 41 = .ok (.lload_n 0, 1) := by decide +kernel
theorem dJ13_bitCount_95d88_42 : decode cJ13_bitCount_95d88 42 = .ok (.lload_n 0, 1) := by decide +kernel
theorem dJ13_bitCount_95d88_43 : decode cJ13_bitCount_95d88 43 = .ok (.bipush 16, 2) := by decide +kernel
theorem dJ13_bitCount_95d88_45 : decode cJ13_bitCount_95d88 45 = .ok (.lushr, 1) := by decide +kernel
theorem dJ13_bitCount_95d88_46 : decode cJ13_bitCount_95d88 46 = .ok (.ladd, 1) := by decide +kernel
theorem dJ13_bitCount_95d88_47 : decode cJ13_bitCount_95d88 47 = .ok (.lstore_n 0, 1) := by decide +kernel
